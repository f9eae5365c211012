set_option maxRecDepth 20000 in
theorem ggL_element_X11_element : GoodIn wsL_element wsX11_element := goodIn_ca (goodIn_ca (goodIn_r _ [7, 8, 9, 10, 11, 12, 13, 6, 14, 15, 16, 17, 18, 19, 20, 21, 22, 23, 24, 25, 26, 27, 28, 29, 30, 31, 32, 33, 34, 35, 36, 37, 38, 39, 40, 41, 42, 43, 44, 45] (by decide +kernel) (by decide +kernel)) (goodIn_sub (fun _ h => List.mem_cons_of_mem _ (List.mem_append_left _ (List.mem_append_right _ h))) (by decide +kernel))) (goodIn_sub (fun _ h => List.mem_cons_of_mem _ (List.mem_append_right _ h)) (by decide +kernel))
set_option maxRecDepth 20000 in
theorem gL_element_X11_element : GoodIn wsL_element (wsV RL 7 RX11 yX11_element wsX11_element) := goodIn_app (goodIn_of _ (by decide +kernel)) ggL_element_X11_element
theorem dL_element_0 : decode cL_element 0 = .ok (.aload_n 3, 1) := by decide +kernel
theorem dL_element_1 : decode cL_element 1 = .ok (.iconst 0, 1) := by decide +kernel
theorem dL_element_2 : decode cL_element 2 = .ok (.aload_n 0, 1) := by decide +kernel
theorem dL_element_3 : decode cL_element 3 = .ok (.iload_n 1, 1) := by decide +kernel
theorem dL_element_4 : decode cL_element 4 = .ok (.iload_n 2, 1) := by decide +kernel
theorem dL_element_5 : decode cL_element 5 = .ok (.invokevirtual 7, 3) := by decide +kernel
theorem dL_element_8 : decode cL_element 8 = .ok (.lastore, 1) := by decide +kernel
theorem dL_element_9 : decode cL_element 9 = .ok (.goto 11, 3) := by decide +kernel
theorem dL_element_12 : decode cL_element 12 = .ok (.astore 4, 2) := by decide +kernel
theorem dL_element_14 : decode cL_element 14 = .ok (.iconst 1, 1) := by decide +kernel
theorem dL_element_15 : decode cL_element 15 = .ok (.ireturn, 1) := by decide +kernel
theorem dL_element_16 : decode cL_element 16 = .ok (.astore 4, 2) := by decide +kernel
theorem dL_element_18 : decode cL_element 18 = .ok (.iconst 2, 1) := by decide +kernel
theorem dL_element_19 : decode cL_element 19 = .ok (.ireturn, 1) := by decide +kernel
theorem dL_element_20 : decode cL_element 20 = .ok (.iconst 0, 1) := by decide +kernel
theorem dL_element_21 : decode cL_element 21 = .ok (.ireturn, 1) := by decide +kernel
set_option maxRecDepth 20000 in
theorem ggL_law_X11_init : GoodIn wsL_law wsX11_init := goodIn_r _ [9, 10, 11, 12, 13, 14, 15, 16, 17, 18, 19, 20, 21, 22, 23, 24, 25, 26, 27, 28, 29, 30, 31, 32, 33, 34, 35, 36, 37, 38, 39, 40, 41, 42, 43, 44, 45, 46, 47, 48, 49, 50, 51, 52, 53, 54, 55, 56, 57, 58, 59, 60, 61, 62, 63, 1192, 1193, 1194, 1195, 1196, 1197, 1198, 1199, 1200, 1232, 1233, 1234, 1235, 1236, 1237, 1238, 1239, 1240, 1241, 1242, 1243, 1244, 1245, 1246, 1247, 1248, 1249, 1250, 1251, 1252, 1253] (by decide +kernel) (by decide +kernel)
set_option maxRecDepth 20000 in
theorem gL_law_X11_init : GoodIn wsL_law (wsX11_init) := ggL_law_X11_init
set_option maxRecDepth 20000 in
theorem ggL_law_X12_init : GoodIn wsL_law wsX12_init := goodIn_r _ [66, 67, 11, 12, 37, 68, 69, 70, 71, 72, 73, 74, 75, 76, 6, 77, 78, 79, 80, 81, 82, 83, 84, 85, 86, 1201, 1202, 1203, 1204, 1205, 1206, 1207, 1208, 1209, 1210, 1211, 1212, 1213, 1214, 1215, 1216, 1217, 1218, 1219, 1220, 1221, 1222, 1223, 1224, 1225, 1226, 1227, 1228, 1229, 1230, 1231] (by decide +kernel) (by decide +kernel)
set_option maxRecDepth 20000 in
theorem gL_law_X12_init : GoodIn wsL_law (wsX12_init) := ggL_law_X12_init
set_option maxRecDepth 20000 in
theorem ggL_law_X11_town : GoodIn wsL_law wsX11_town := goodIn_r _ [90, 91, 22, 21, 92, 93, 94, 95, 2, 96, 16, 97, 98, 99, 100, 101, 102, 103, 104, 105, 106, 107, 14, 108, 109, 110, 31, 111, 63, 112, 113, 114, 115, 61, 116, 117, 118, 119, 120, 121, 122, 123, 124, 125, 126, 127, 128, 20, 129, 36, 38, 39, 43, 44, 45, 130, 131, 132, 133, 42, 134, 135, 136, 137, 138, 139, 140, 141, 142, 143, 144, 145, 146, 147, 148, 149, 150, 151, 152, 153, 154, 155, 156, 157, 158, 159, 160, 161, 162, 163, 164, 165, 166, 167, 168, 13, 40, 41, 169, 170, 171, 172, 47, 48, 49, 11, 12, 50, 173, 174, 175, 176, 177, 178, 179, 180, 181, 182, 183, 184, 185, 186, 187, 188, 189, 190, 191, 192, 193, 194, 195, 196, 197, 198, 199, 200, 201, 202, 203, 204, 205, 206, 207, 208, 209, 210, 211, 212, 213, 214, 215, 216, 217, 218, 219, 220, 221, 222, 223, 224, 225, 226, 227, 228, 229, 230, 231, 232, 233, 234, 235, 236, 237, 238, 239, 240, 241, 242, 243, 244, 245, 246, 247, 248, 249, 250, 251, 252, 253, 254, 255, 256, 257, 258, 259, 260, 261, 262, 263, 264, 265, 266, 267, 268, 269, 270, 271, 272, 273, 274, 275, 276, 277, 278, 279, 280, 281, 282, 283, 284, 285, 286, 287, 288, 289, 290, 291, 292, 293, 294, 295, 296, 297, 298, 299, 300, 301, 302, 303, 304, 305, 306, 307, 308, 309, 310, 311, 312, 313, 314, 315, 316, 317, 318, 319, 320, 321, 322, 323, 324, 325, 326, 327, 328, 329, 330, 331, 332, 333, 334, 335, 336, 337, 338, 339, 340, 341, 342, 343, 344, 345, 346, 347, 348, 349, 350, 351, 352, 353, 354, 355, 356, 357, 358, 1243, 1244, 1245, 1192, 1193, 1194, 1195, 1196, 1197, 1198, 1199, 1200, 1232, 1233, 1234, 1235, 1236, 1237, 1238, 1253, 1247, 1248, 1250, 1251, 1249, 1252, 1246] (by decide +kernel) (by decide +kernel)
set_option maxRecDepth 20000 in
theorem gL_law_X11_town : GoodIn wsL_law (wsV RL 21 RX11 yX11_town wsX11_town) := goodIn_app (goodIn_of _ (by decide +kernel)) ggL_law_X11_town
set_option maxRecDepth 20000 in
theorem ggL_law_X12_town : GoodIn wsL_law wsX12_town := goodIn_r _ [362, 86, 75, 363, 364, 365, 366, 76, 78, 367, 368, 369, 5, 370, 371, 72, 372, 373, 374, 375, 376, 377, 378, 79, 80, 379, 380, 381, 382, 77, 383, 384, 385, 386, 387, 388, 389, 390, 391, 392, 393, 394, 395, 81, 396, 397, 398, 399, 400, 401, 402, 403, 404, 405, 68, 69, 70, 71, 406, 407, 408, 409, 410, 411, 412, 413, 414, 415, 416, 417, 418, 419, 420, 421, 422, 423, 424, 425, 426, 427, 428, 429, 430, 431, 432, 433, 434, 435, 436, 437, 438, 439, 440, 441, 442, 443, 444, 445, 446, 447, 448, 449, 450, 451, 452, 453, 454, 455, 456, 457, 458, 459, 460, 461, 462, 463, 464, 465, 466, 467, 468, 1201, 1202, 1203, 1204, 1205, 1206, 1207, 1208, 1209, 1210, 1211, 1212, 1213, 1214, 1215, 1216, 1217, 1218, 1219, 1220, 1221, 1222, 1223, 1224, 1225, 1226, 1227, 1228, 1229, 1230, 1231] (by decide +kernel) (by decide +kernel)
set_option maxRecDepth 20000 in
theorem gL_law_X12_town : GoodIn wsL_law (wsV RL 25 RX12 yX12_town wsX12_town) := goodIn_app (goodIn_of _ (by decide +kernel)) ggL_law_X12_town
set_option maxRecDepth 20000 in
theorem ggL_law_X11_person : GoodIn wsL_law wsX11_person := goodIn_r _ [472, 21, 473, 474, 211, 212, 20, 213, 43, 475, 131, 132, 133, 36, 42, 476, 477, 478, 479, 480, 153, 481, 482, 483, 484, 156, 485, 486, 487, 165, 488, 489, 490, 159, 491, 492, 493, 162, 494, 495, 496, 497, 41, 498, 499, 168, 500, 501, 502, 150, 503, 504, 315, 316, 317, 38, 210, 120, 2, 121, 505, 231, 232, 233, 234, 235, 236, 237, 238, 239, 240, 241, 242, 243, 244, 245, 246, 247, 248, 249, 250, 251, 252, 253, 254, 255, 256, 257, 258, 259, 260, 261, 262, 263, 264, 265, 266, 267, 506, 269, 270, 271, 272, 273, 274, 275, 507, 285, 286, 287, 288, 289, 290, 291, 292, 293, 294, 295, 296, 297, 298, 299, 300, 301, 302, 303, 304, 305, 306, 508, 308, 309, 310, 311, 312, 313, 509, 323, 324, 325, 326, 327, 328, 329, 330, 331, 332, 333, 334, 335, 336, 337, 338, 339, 340, 341, 342, 343, 344, 510, 346, 347, 348, 349, 350, 1192, 1193, 1194, 1195, 1196, 1197, 1198, 1199, 1200, 1247, 1248, 1249, 1250, 1251, 1246, 1252, 1253, 1232, 1233, 1234, 1235, 1236, 1237, 1238] (by decide +kernel) (by decide +kernel)
set_option maxRecDepth 20000 in
theorem gL_law_X11_person : GoodIn wsL_law (wsV RL 26 RX11 yX11_person wsX11_person) := goodIn_app (goodIn_of _ (by decide +kernel)) ggL_law_X11_person
set_option maxRecDepth 20000 in
theorem ggL_law_X12_person : GoodIn wsL_law wsX12_person := goodIn_r _ [514, 86, 68, 69, 70, 422, 423, 424, 5, 425, 403, 372, 373, 374, 434, 435, 436, 437, 453, 454, 455, 456, 461, 462, 463, 464, 1201, 1202, 1203, 1204, 1205, 1206, 1207, 1208, 1209, 1210, 1211, 1212, 1213, 1214, 1215, 1216, 1217, 1218, 1219, 1220, 1221, 1222, 1223, 1224, 1225, 1226, 1227, 1228, 1229, 1230, 1231] (by decide +kernel) (by decide +kernel)
set_option maxRecDepth 20000 in
theorem gL_law_X12_person : GoodIn wsL_law (wsV RL 30 RX12 yX12_person wsX12_person) := goodIn_app (goodIn_of _ (by decide +kernel)) ggL_law_X12_person
set_option maxRecDepth 20000 in
theorem ggL_law_X11_fond : GoodIn wsL_law wsX11_fond := goodIn_r _ [518, 21, 519, 207, 208, 20, 209, 210, 211, 212, 213, 43, 520, 227, 228, 229, 39, 206, 120, 2, 121, 1192, 1193, 1194, 1195, 1196, 1197, 1198, 1199, 1200, 1232, 1233, 1234, 1235, 1236, 1237, 1238] (by decide +kernel) (by decide +kernel)
set_option maxRecDepth 20000 in
theorem gL_law_X11_fond : GoodIn wsL_law (wsV RL 31 RX11 yX11_fond wsX11_fond) := goodIn_app (goodIn_of _ (by decide +kernel)) ggL_law_X11_fond
set_option maxRecDepth 20000 in
theorem ggL_law_X12_fond : GoodIn wsL_law wsX12_fond := goodIn_r _ [524, 86, 71, 418, 419, 420, 5, 421, 422, 423, 424, 425, 403, 372, 373, 374, 1201, 1202, 1203, 1204, 1205, 1206, 1207, 1208, 1209, 1210, 1211, 1212, 1213, 1214, 1215, 1216, 1217, 1218, 1219, 1220, 1221, 1222, 1223, 1224, 1225, 1226, 1227, 1228, 1229, 1230, 1231] (by decide +kernel) (by decide +kernel)
set_option maxRecDepth 20000 in
theorem gL_law_X12_fond : GoodIn wsL_law (wsV RL 34 RX12 yX12_fond wsX12_fond) := goodIn_app (goodIn_of _ (by decide +kernel)) ggL_law_X12_fond
set_option maxRecDepth 20000 in
theorem ggL_law_X11_comes : GoodIn wsL_law wsX11_comes := goodIn_r _ [528, 21, 529, 104, 105, 106, 2, 107, 14, 530, 531, 532, 533, 101, 102, 103, 93, 94, 95, 96, 16, 534, 199, 200, 20, 201, 43, 36, 1192, 1193, 1194, 1195, 1196, 1197, 1198, 1199, 1200, 1232, 1233, 1234, 1235, 1236, 1237, 1238] (by decide +kernel) (by decide +kernel)
set_option maxRecDepth 20000 in
theorem gL_law_X11_comes : GoodIn wsL_law (wsV RL 35 RX11 yX11_comes wsX11_comes) := goodIn_app (goodIn_of _ (by decide +kernel)) ggL_law_X11_comes
set_option maxRecDepth 20000 in
theorem ggL_law_X12_comes : GoodIn wsL_law wsX12_comes := goodIn_r _ [538, 86, 73, 74, 403, 539, 540, 541, 5, 542, 371, 72, 372, 373, 374, 414, 415, 416, 417, 68, 69, 70, 71, 1201, 1202, 1203, 1204, 1205, 1206, 1207, 1208, 1209, 1210, 1211, 1212, 1213, 1214, 1215, 1216, 1217, 1218, 1219, 1220, 1221, 1222, 1223, 1224, 1225, 1226, 1227, 1228, 1229, 1230, 1231] (by decide +kernel) (by decide +kernel)
set_option maxRecDepth 20000 in
theorem gL_law_X12_comes : GoodIn wsL_law (wsV RL 38 RX12 yX12_comes wsX12_comes) := goodIn_app (goodIn_of _ (by decide +kernel)) ggL_law_X12_comes
set_option maxRecDepth 20000 in
theorem ggL_law_X11_feels : GoodIn wsL_law wsX11_feels := goodIn_r _ [546, 21, 520, 227, 228, 20, 229, 39, 206, 207, 208, 209, 210, 211, 212, 213, 43, 120, 2, 121, 547, 203, 204, 205, 134, 135, 1192, 1193, 1194, 1195, 1196, 1197, 1198, 1199, 1200, 1232, 1233, 1234, 1235, 1236, 1237, 1238] (by decide +kernel) (by decide +kernel)
set_option maxRecDepth 20000 in
theorem gL_law_X11_feels : GoodIn wsL_law (wsV RL 39 RX11 yX11_feels wsX11_feels) := goodIn_app (goodIn_of _ (by decide +kernel)) ggL_law_X11_feels
set_option maxRecDepth 20000 in
theorem ggL_law_X12_feels : GoodIn wsL_law wsX12_feels := goodIn_r _ [551, 86, 552, 71, 418, 419, 420, 5, 421, 422, 423, 424, 425, 403, 372, 373, 374, 1201, 1202, 1203, 1204, 1205, 1206, 1207, 1208, 1209, 1210, 1211, 1212, 1213, 1214, 1215, 1216, 1217, 1218, 1219, 1220, 1221, 1222, 1223, 1224, 1225, 1226, 1227, 1228, 1229, 1230, 1231] (by decide +kernel) (by decide +kernel)
set_option maxRecDepth 20000 in
theorem gL_law_X12_feels : GoodIn wsL_law (wsV RL 43 RX12 yX12_feels wsX12_feels) := goodIn_app (goodIn_of _ (by decide +kernel)) ggL_law_X12_feels
set_option maxRecDepth 20000 in
theorem ggL_law_X11_limit : GoodIn wsL_law wsX11_limit := goodIn_r _ [556, 21, 557, 558, 352, 353, 20, 354, 44, 1192, 1193, 1194, 1195, 1196, 1197, 1198, 1199, 1200, 1232, 1233, 1234, 1235, 1236, 1237, 1238] (by decide +kernel) (by decide +kernel)
set_option maxRecDepth 20000 in
theorem gL_law_X11_limit : GoodIn wsL_law (wsV RL 44 RX11 yX11_limit wsX11_limit) := goodIn_app (goodIn_of _ (by decide +kernel)) ggL_law_X11_limit
set_option maxRecDepth 20000 in
theorem ggL_law_X12_limit : GoodIn wsL_law wsX12_limit := goodIn_r _ [562, 86, 552, 404, 372, 373, 5, 374, 1201, 1202, 1203, 1204, 1205, 1206, 1207, 1208, 1209, 1210, 1211, 1212, 1213, 1214, 1215, 1216, 1217, 1218, 1219, 1220, 1221, 1222, 1223, 1224, 1225, 1226, 1227, 1228, 1229, 1230, 1231] (by decide +kernel) (by decide +kernel)
set_option maxRecDepth 20000 in
theorem gL_law_X12_limit : GoodIn wsL_law (wsV RL 47 RX12 yX12_limit wsX12_limit) := goodIn_app (goodIn_of _ (by decide +kernel)) ggL_law_X12_limit
set_option maxRecDepth 20000 in
theorem ggL_law_X11_sees : GoodIn wsL_law wsX11_sees := goodIn_r _ [566, 21, 519, 207, 208, 20, 209, 210, 211, 212, 213, 43, 567, 215, 216, 217, 45, 206, 218, 219, 220, 221, 222, 223, 224, 225, 226, 227, 228, 229, 39, 120, 2, 121, 130, 131, 132, 133, 36, 42, 230, 231, 232, 233, 234, 153, 235, 236, 237, 238, 239, 240, 41, 241, 242, 243, 156, 244, 245, 246, 165, 247, 248, 249, 250, 251, 252, 159, 253, 254, 255, 256, 257, 162, 258, 259, 260, 261, 262, 263, 264, 150, 265, 266, 267, 268, 269, 270, 271, 168, 272, 273, 274, 275, 202, 203, 204, 205, 134, 135, 520, 1192, 1193, 1194, 1195, 1196, 1197, 1198, 1199, 1200, 1232, 1233, 1234, 1235, 1236, 1237, 1238, 1247, 1248, 1249, 1250, 1251, 1246, 1252, 1253] (by decide +kernel) (by decide +kernel)
set_option maxRecDepth 20000 in
theorem gL_law_X11_sees : GoodIn wsL_law (wsV RL 48 RX11 yX11_sees wsX11_sees) := goodIn_app (goodIn_of _ (by decide +kernel)) ggL_law_X11_sees
set_option maxRecDepth 20000 in
theorem ggL_law_X12_sees : GoodIn wsL_law wsX12_sees := goodIn_r _ [571, 86, 71, 418, 419, 420, 5, 421, 422, 423, 424, 425, 403, 372, 373, 374, 426, 427, 428, 429, 405, 430, 431, 432, 433, 434, 435, 436, 437, 69, 68, 438, 439, 440, 1201, 1202, 1203, 1204, 1205, 1206, 1207, 1208, 1209, 1210, 1211, 1212, 1213, 1214, 1215, 1216, 1217, 1218, 1219, 1220, 1221, 1222, 1223, 1224, 1225, 1226, 1227, 1228, 1229, 1230, 1231] (by decide +kernel) (by decide +kernel)
set_option maxRecDepth 20000 in
theorem gL_law_X12_sees : GoodIn wsL_law (wsV RL 51 RX12 yX12_sees wsX12_sees) := goodIn_app (goodIn_of _ (by decide +kernel)) ggL_law_X12_sees
set_option maxRecDepth 20000 in
theorem ggL_law_X11_turnsFor : GoodIn wsL_law wsX11_turnsFor := goodIn_r _ [575, 21, 519, 207, 208, 20, 209, 210, 211, 212, 213, 43, 576, 277, 278, 279, 44, 45, 280, 281, 282, 283, 206, 226, 227, 228, 229, 39, 120, 2, 121, 130, 131, 132, 133, 36, 42, 284, 285, 286, 287, 41, 288, 289, 290, 291, 156, 292, 293, 294, 295, 296, 150, 297, 298, 267, 299, 300, 301, 159, 302, 303, 304, 162, 305, 306, 263, 307, 308, 309, 310, 168, 311, 312, 274, 313, 314, 315, 316, 317, 38, 318, 319, 320, 321, 222, 223, 224, 225, 322, 323, 324, 325, 326, 153, 327, 328, 239, 329, 330, 331, 332, 333, 334, 335, 165, 336, 337, 338, 339, 340, 250, 341, 342, 343, 344, 345, 346, 347, 348, 349, 350, 134, 135, 218, 219, 220, 221, 230, 231, 232, 233, 234, 235, 236, 237, 238, 240, 241, 242, 243, 244, 245, 246, 247, 248, 249, 251, 252, 253, 254, 255, 256, 257, 258, 259, 260, 261, 262, 264, 265, 266, 268, 269, 270, 271, 272, 273, 275, 202, 203, 204, 205, 504, 1192, 1193, 1194, 1195, 1196, 1197, 1198, 1199, 1200, 1232, 1233, 1234, 1235, 1236, 1237, 1238, 1247, 1248, 1249, 1250, 1251, 1246, 1252, 1253] (by decide +kernel) (by decide +kernel)
set_option maxRecDepth 20000 in
theorem gL_law_X11_turnsFor : GoodIn wsL_law (wsV RL 52 RX11 yX11_turnsFor wsX11_turnsFor) := goodIn_app (goodIn_of _ (by decide +kernel)) ggL_law_X11_turnsFor
set_option maxRecDepth 20000 in
theorem ggL_law_X12_turnsFor : GoodIn wsL_law wsX12_turnsFor := goodIn_r _ [580, 86, 70, 418, 419, 420, 5, 421, 422, 423, 424, 425, 403, 372, 373, 374, 441, 442, 443, 444, 445, 446, 447, 448, 449, 450, 451, 452, 71, 404, 453, 454, 455, 456, 68, 426, 427, 428, 429, 405, 457, 458, 459, 460, 461, 462, 463, 464, 69, 438, 439, 440, 430, 431, 432, 433, 434, 435, 436, 437, 1201, 1202, 1203, 1204, 1205, 1206, 1207, 1208, 1209, 1210, 1211, 1212, 1213, 1214, 1215, 1216, 1217, 1218, 1219, 1220, 1221, 1222, 1223, 1224, 1225, 1226, 1227, 1228, 1229, 1230, 1231] (by decide +kernel) (by decide +kernel)
set_option maxRecDepth 20000 in
theorem gL_law_X12_turnsFor : GoodIn wsL_law (wsV RL 55 RX12 yX12_turnsFor wsX12_turnsFor) := goodIn_app (goodIn_of _ (by decide +kernel)) ggL_law_X12_turnsFor
set_option maxRecDepth 20000 in
theorem ggL_law_X11_days : GoodIn wsL_law wsX11_days := goodIn_r _ [584, 21, 585, 586, 356, 357, 20, 358, 45, 1192, 1193, 1194, 1195, 1196, 1197, 1198, 1199, 1200, 1232, 1233, 1234, 1235, 1236, 1237, 1238] (by decide +kernel) (by decide +kernel)
set_option maxRecDepth 20000 in
theorem gL_law_X11_days : GoodIn wsL_law (wsV RL 56 RX11 yX11_days wsX11_days) := goodIn_app (goodIn_of _ (by decide +kernel)) ggL_law_X11_days
set_option maxRecDepth 20000 in
theorem ggL_law_X12_days : GoodIn wsL_law wsX12_days := goodIn_r _ [590, 86, 591, 405, 372, 373, 5, 374, 426, 427, 428, 429, 1201, 1202, 1203, 1204, 1205, 1206, 1207, 1208, 1209, 1210, 1211, 1212, 1213, 1214, 1215, 1216, 1217, 1218, 1219, 1220, 1221, 1222, 1223, 1224, 1225, 1226, 1227, 1228, 1229, 1230, 1231] (by decide +kernel) (by decide +kernel)
set_option maxRecDepth 20000 in
theorem gL_law_X12_days : GoodIn wsL_law (wsV RL 59 RX12 yX12_days wsX12_days) := goodIn_app (goodIn_of _ (by decide +kernel)) ggL_law_X12_days
set_option maxRecDepth 20000 in
theorem ggL_law_X11_fit : GoodIn wsL_law wsX11_fit := goodIn_r _ [595, 21, 557, 474, 211, 212, 20, 213, 43, 596, 597, 598, 599, 280, 281, 282, 283, 206, 207, 208, 209, 210, 226, 227, 228, 229, 39, 120, 2, 121, 130, 131, 132, 133, 36, 42, 284, 285, 286, 287, 41, 288, 289, 290, 291, 156, 292, 293, 294, 295, 296, 150, 297, 298, 267, 299, 300, 301, 159, 302, 303, 304, 162, 305, 306, 263, 307, 308, 309, 310, 168, 311, 312, 274, 313, 1192, 1193, 1194, 1195, 1196, 1197, 1198, 1199, 1200, 1232, 1233, 1234, 1235, 1236, 1237, 1238] (by decide +kernel) (by decide +kernel)
set_option maxRecDepth 20000 in
theorem gL_law_X11_fit : GoodIn wsL_law (wsV RL 60 RX11 yX11_fit wsX11_fit) := goodIn_app (goodIn_of _ (by decide +kernel)) ggL_law_X11_fit
set_option maxRecDepth 20000 in
theorem ggL_law_X12_fit : GoodIn wsL_law wsX12_fit := goodIn_r _ [603, 86, 422, 423, 424, 5, 425, 403, 372, 373, 374, 604, 605, 606, 607, 449, 450, 451, 452, 71, 404, 453, 454, 455, 456, 68, 1201, 1202, 1203, 1204, 1205, 1206, 1207, 1208, 1209, 1210, 1211, 1212, 1213, 1214, 1215, 1216, 1217, 1218, 1219, 1220, 1221, 1222, 1223, 1224, 1225, 1226, 1227, 1228, 1229, 1230, 1231] (by decide +kernel) (by decide +kernel)
set_option maxRecDepth 20000 in
theorem gL_law_X12_fit : GoodIn wsL_law (wsV RL 63 RX12 yX12_fit wsX12_fit) := goodIn_app (goodIn_of _ (by decide +kernel)) ggL_law_X12_fit
set_option maxRecDepth 20000 in
theorem ggL_law_X11_told : GoodIn wsL_law wsX11_told := goodIn_r _ [611, 21, 27, 557, 474, 211, 212, 20, 213, 43, 612, 613, 614, 26, 615, 616, 617, 223, 224, 225, 57, 54, 618, 597, 598, 599, 280, 281, 282, 283, 206, 207, 208, 209, 210, 226, 227, 228, 229, 39, 120, 2, 121, 130, 131, 132, 133, 36, 42, 284, 285, 286, 287, 41, 288, 289, 290, 291, 156, 292, 293, 294, 295, 296, 150, 297, 298, 267, 299, 300, 301, 159, 302, 303, 304, 162, 305, 306, 263, 307, 308, 309, 310, 168, 311, 312, 274, 313, 134, 135, 619, 620, 621, 622, 55, 623, 624, 625, 626, 627, 628, 629, 630, 631, 632, 633, 634, 635, 636, 637, 638, 639, 640, 641, 642, 643, 644, 645, 646, 647, 648, 1192, 1193, 1194, 1195, 1196, 1197, 1198, 1199, 1200, 1232, 1233, 1234, 1235, 1236, 1237, 1238, 1239, 1240, 1241, 1242] (by decide +kernel) (by decide +kernel)
set_option maxRecDepth 20000 in
theorem gL_law_X11_told : GoodIn wsL_law (wsV RL 64 RX11 yX11_told wsX11_told) := goodIn_app (goodIn_of _ (by decide +kernel)) ggL_law_X11_told
set_option maxRecDepth 20000 in
theorem ggL_law_X12_told : GoodIn wsL_law wsX12_told := goodIn_r _ [652, 86, 653, 403, 83, 372, 373, 5, 374, 654, 655, 656, 657, 84, 604, 605, 606, 607, 449, 450, 451, 452, 71, 404, 453, 454, 455, 456, 68, 658, 659, 660, 661, 662, 663, 1201, 1202, 1203, 1204, 1205, 1206, 1207, 1208, 1209, 1210, 1211, 1212, 1213, 1214, 1215, 1216, 1217, 1218, 1219, 1220, 1221, 1222, 1223, 1224, 1225, 1226, 1227, 1228, 1229, 1230, 1231] (by decide +kernel) (by decide +kernel)
set_option maxRecDepth 20000 in
theorem gL_law_X12_told : GoodIn wsL_law (wsV RL 67 RX12 yX12_told wsX12_told) := goodIn_app (goodIn_of _ (by decide +kernel)) ggL_law_X12_told
set_option maxRecDepth 20000 in
theorem ggL_law_X11_rings : GoodIn wsL_law wsX11_rings := goodIn_r _ [667, 27, 21, 557, 612, 613, 614, 26, 615, 616, 617, 223, 224, 225, 57, 54, 618, 597, 598, 20, 599, 43, 280, 281, 282, 283, 206, 207, 208, 209, 210, 211, 212, 213, 226, 227, 228, 229, 39, 120, 2, 121, 130, 131, 132, 133, 36, 42, 284, 285, 286, 287, 41, 288, 289, 290, 291, 156, 292, 293, 294, 295, 296, 150, 297, 298, 267, 299, 300, 301, 159, 302, 303, 304, 162, 305, 306, 263, 307, 308, 309, 310, 168, 311, 312, 274, 313, 134, 135, 668, 669, 670, 671, 56, 623, 624, 625, 626, 627, 628, 629, 1192, 1193, 1194, 1195, 1196, 1197, 1198, 1199, 1200, 1232, 1233, 1234, 1235, 1236, 1237, 1238, 1239, 1240, 1241, 1242] (by decide +kernel) (by decide +kernel)
set_option maxRecDepth 20000 in
theorem gL_law_X11_rings : GoodIn wsL_law (wsV RL 68 RX11 yX11_rings wsX11_rings) := goodIn_app (goodIn_of _ (by decide +kernel)) ggL_law_X11_rings
set_option maxRecDepth 20000 in
theorem ggL_law_X12_rings : GoodIn wsL_law wsX12_rings := goodIn_r _ [675, 86, 84, 654, 655, 656, 5, 657, 83, 403, 604, 605, 606, 607, 449, 450, 451, 452, 71, 404, 453, 454, 455, 456, 68, 658, 659, 660, 661, 662, 663, 1201, 1202, 1203, 1204, 1205, 1206, 1207, 1208, 1209, 1210, 1211, 1212, 1213, 1214, 1215, 1216, 1217, 1218, 1219, 1220, 1221, 1222, 1223, 1224, 1225, 1226, 1227, 1228, 1229, 1230, 1231] (by decide +kernel) (by decide +kernel)
set_option maxRecDepth 20000 in
theorem gL_law_X12_rings : GoodIn wsL_law (wsV RL 72 RX12 yX12_rings wsX12_rings) := goodIn_app (goodIn_of _ (by decide +kernel)) ggL_law_X12_rings
set_option maxRecDepth 20000 in
theorem ggL_law_X11_nobody : GoodIn wsL_law wsX11_nobody := goodIn_r _ [679, 21, 529, 557, 596, 597, 598, 20, 599, 43, 280, 281, 282, 283, 206, 207, 208, 209, 210, 211, 212, 213, 226, 227, 228, 229, 39, 120, 2, 121, 130, 131, 132, 133, 36, 42, 284, 285, 286, 287, 41, 288, 289, 290, 291, 156, 292, 293, 294, 295, 296, 150, 297, 298, 267, 299, 300, 301, 159, 302, 303, 304, 162, 305, 306, 263, 307, 308, 309, 310, 168, 311, 312, 274, 313, 1192, 1193, 1194, 1195, 1196, 1197, 1198, 1199, 1200, 1232, 1233, 1234, 1235, 1236, 1237, 1238] (by decide +kernel) (by decide +kernel)
set_option maxRecDepth 20000 in
theorem gL_law_X11_nobody : GoodIn wsL_law (wsV RL 73 RX11 yX11_nobody wsX11_nobody) := goodIn_app (goodIn_of _ (by decide +kernel)) ggL_law_X11_nobody
set_option maxRecDepth 20000 in
theorem ggL_law_X12_nobody : GoodIn wsL_law wsX12_nobody := goodIn_r _ [683, 86, 684, 685, 686, 5, 687, 403, 604, 605, 606, 607, 449, 450, 451, 452, 71, 404, 453, 454, 455, 456, 68, 1201, 1202, 1203, 1204, 1205, 1206, 1207, 1208, 1209, 1210, 1211, 1212, 1213, 1214, 1215, 1216, 1217, 1218, 1219, 1220, 1221, 1222, 1223, 1224, 1225, 1226, 1227, 1228, 1229, 1230, 1231] (by decide +kernel) (by decide +kernel)
set_option maxRecDepth 20000 in
theorem gL_law_X12_nobody : GoodIn wsL_law (wsV RL 76 RX12 yX12_nobody wsX12_nobody) := goodIn_app (goodIn_of _ (by decide +kernel)) ggL_law_X12_nobody
set_option maxRecDepth 20000 in
theorem ggL_law_X11_swaps : GoodIn wsL_law wsX11_swaps := goodIn_r _ [691, 21, 529, 557, 692, 693, 2, 694, 695, 281, 282, 20, 283, 206, 207, 208, 209, 210, 211, 212, 213, 43, 226, 227, 228, 229, 39, 120, 121, 130, 131, 132, 133, 36, 42, 284, 285, 286, 287, 41, 288, 289, 290, 291, 156, 292, 293, 294, 295, 296, 150, 297, 298, 267, 299, 300, 301, 159, 302, 303, 304, 162, 305, 306, 263, 307, 308, 309, 310, 168, 311, 312, 274, 313, 1192, 1193, 1194, 1195, 1196, 1197, 1198, 1199, 1200, 1232, 1233, 1234, 1235, 1236, 1237, 1238] (by decide +kernel) (by decide +kernel)
set_option maxRecDepth 20000 in
theorem gL_law_X11_swaps : GoodIn wsL_law (wsV RL 77 RX11 yX11_swaps wsX11_swaps) := goodIn_app (goodIn_of _ (by decide +kernel)) ggL_law_X11_swaps
set_option maxRecDepth 20000 in
theorem ggL_law_X12_swaps : GoodIn wsL_law wsX12_swaps := goodIn_r _ [699, 86, 403, 372, 373, 5, 374, 449, 450, 451, 452, 71, 404, 453, 454, 455, 456, 68, 1201, 1202, 1203, 1204, 1205, 1206, 1207, 1208, 1209, 1210, 1211, 1212, 1213, 1214, 1215, 1216, 1217, 1218, 1219, 1220, 1221, 1222, 1223, 1224, 1225, 1226, 1227, 1228, 1229, 1230, 1231] (by decide +kernel) (by decide +kernel)
set_option maxRecDepth 20000 in
theorem gL_law_X12_swaps : GoodIn wsL_law (wsV RL 80 RX12 yX12_swaps wsX12_swaps) := goodIn_app (goodIn_of _ (by decide +kernel)) ggL_law_X12_swaps
set_option maxRecDepth 20000 in
theorem ggL_law_X11_lasts : GoodIn wsL_law wsX11_lasts := goodIn_r _ [703, 21, 519, 207, 208, 20, 209, 210, 211, 212, 213, 43, 704, 705, 706, 707, 44, 222, 223, 224, 225, 130, 131, 132, 133, 36, 42, 284, 285, 286, 287, 41, 288, 289, 290, 291, 156, 292, 293, 294, 295, 296, 150, 297, 298, 267, 299, 300, 301, 159, 302, 303, 304, 162, 305, 306, 263, 307, 308, 309, 310, 168, 311, 312, 274, 313, 230, 231, 232, 233, 234, 153, 235, 236, 237, 238, 239, 240, 241, 242, 243, 244, 245, 246, 165, 247, 248, 249, 250, 251, 252, 253, 254, 255, 256, 257, 258, 259, 260, 261, 262, 264, 265, 266, 268, 269, 270, 271, 272, 273, 275, 226, 227, 228, 229, 39, 206, 120, 2, 121, 1192, 1193, 1194, 1195, 1196, 1197, 1198, 1199, 1200, 1232, 1233, 1234, 1235, 1236, 1237, 1238, 1247, 1248, 1249, 1250, 1251, 1246, 1252, 1253] (by decide +kernel) (by decide +kernel)
set_option maxRecDepth 20000 in
theorem gL_law_X11_lasts : GoodIn wsL_law (wsV RL 81 RX11 yX11_lasts wsX11_lasts) := goodIn_app (goodIn_of _ (by decide +kernel)) ggL_law_X11_lasts
set_option maxRecDepth 20000 in
theorem ggL_law_X12_lasts : GoodIn wsL_law wsX12_lasts := goodIn_r _ [711, 86, 418, 419, 420, 5, 421, 422, 423, 424, 425, 403, 372, 373, 374, 712, 713, 714, 715, 71, 404, 453, 454, 455, 456, 68, 434, 435, 436, 437, 69, 438, 439, 440, 1201, 1202, 1203, 1204, 1205, 1206, 1207, 1208, 1209, 1210, 1211, 1212, 1213, 1214, 1215, 1216, 1217, 1218, 1219, 1220, 1221, 1222, 1223, 1224, 1225, 1226, 1227, 1228, 1229, 1230, 1231] (by decide +kernel) (by decide +kernel)
set_option maxRecDepth 20000 in
theorem gL_law_X12_lasts : GoodIn wsL_law (wsV RL 84 RX12 yX12_lasts wsX12_lasts) := goodIn_app (goodIn_of _ (by decide +kernel)) ggL_law_X12_lasts
set_option maxRecDepth 20000 in
theorem ggL_law_X11_soonest : GoodIn wsL_law wsX11_soonest := goodIn_r _ [719, 21, 474, 211, 212, 20, 213, 43, 692, 693, 2, 694, 720, 721, 722, 723, 529, 724, 223, 224, 225, 725, 635, 636, 504, 315, 316, 317, 38, 210, 120, 121, 475, 131, 132, 133, 36, 42, 509, 323, 324, 325, 326, 153, 327, 328, 239, 329, 41, 330, 331, 332, 156, 333, 334, 335, 165, 336, 337, 338, 339, 340, 250, 341, 342, 343, 162, 344, 510, 346, 347, 348, 168, 349, 350, 704, 705, 706, 707, 44, 222, 130, 284, 285, 286, 287, 288, 289, 290, 291, 292, 293, 294, 295, 296, 150, 297, 298, 267, 299, 300, 301, 159, 302, 303, 304, 305, 306, 263, 307, 308, 309, 310, 311, 312, 274, 313, 230, 231, 232, 233, 234, 235, 236, 237, 238, 240, 241, 242, 243, 244, 245, 246, 247, 248, 249, 251, 252, 253, 254, 255, 256, 257, 258, 259, 260, 261, 262, 264, 265, 266, 268, 269, 270, 271, 272, 273, 275, 226, 227, 228, 229, 39, 206, 207, 208, 209, 726, 727, 728, 729, 557, 695, 281, 282, 283, 1192, 1193, 1194, 1195, 1196, 1197, 1198, 1199, 1200, 1232, 1233, 1234, 1235, 1236, 1237, 1238, 1247, 1248, 1249, 1250, 1251, 1246, 1252, 1253] (by decide +kernel) (by decide +kernel)
set_option maxRecDepth 20000 in
theorem gL_law_X11_soonest : GoodIn wsL_law (wsV RL 85 RX11 yX11_soonest wsX11_soonest) := goodIn_app (goodIn_of _ (by decide +kernel)) ggL_law_X11_soonest
set_option maxRecDepth 20000 in
theorem ggL_law_X12_soonest : GoodIn wsL_law wsX12_soonest := goodIn_r _ [733, 86, 70, 403, 422, 423, 424, 5, 425, 372, 373, 374, 449, 450, 451, 452, 71, 404, 453, 454, 455, 456, 68, 461, 462, 463, 464, 69, 712, 713, 714, 715, 434, 435, 436, 437, 438, 439, 440, 1201, 1202, 1203, 1204, 1205, 1206, 1207, 1208, 1209, 1210, 1211, 1212, 1213, 1214, 1215, 1216, 1217, 1218, 1219, 1220, 1221, 1222, 1223, 1224, 1225, 1226, 1227, 1228, 1229, 1230, 1231] (by decide +kernel) (by decide +kernel)
set_option maxRecDepth 20000 in
theorem gL_law_X12_soonest : GoodIn wsL_law (wsV RL 88 RX12 yX12_soonest wsX12_soonest) := goodIn_app (goodIn_of _ (by decide +kernel)) ggL_law_X12_soonest
set_option maxRecDepth 20000 in
theorem ggL_law_X11_hide : GoodIn wsL_law wsX11_hide := goodIn_r _ [737, 21, 529, 474, 211, 212, 20, 213, 43, 704, 705, 706, 707, 44, 222, 223, 224, 225, 130, 131, 132, 133, 36, 42, 284, 285, 286, 287, 41, 288, 289, 290, 291, 156, 292, 293, 294, 295, 296, 150, 297, 298, 267, 299, 300, 301, 159, 302, 303, 304, 162, 305, 306, 263, 307, 308, 309, 310, 168, 311, 312, 274, 313, 230, 231, 232, 233, 234, 153, 235, 236, 237, 238, 239, 240, 241, 242, 243, 244, 245, 246, 165, 247, 248, 249, 250, 251, 252, 253, 254, 255, 256, 257, 258, 259, 260, 261, 262, 264, 265, 266, 268, 269, 270, 271, 272, 273, 275, 226, 227, 228, 229, 39, 206, 207, 208, 209, 210, 120, 2, 121, 1192, 1193, 1194, 1195, 1196, 1197, 1198, 1199, 1200, 1232, 1233, 1234, 1235, 1236, 1237, 1238, 1247, 1248, 1249, 1250, 1251, 1246, 1252, 1253] (by decide +kernel) (by decide +kernel)
set_option maxRecDepth 20000 in
theorem gL_law_X11_hide : GoodIn wsL_law (wsV RL 89 RX11 yX11_hide wsX11_hide) := goodIn_app (goodIn_of _ (by decide +kernel)) ggL_law_X11_hide
set_option maxRecDepth 20000 in
theorem ggL_law_X12_hide : GoodIn wsL_law wsX12_hide := goodIn_r _ [741, 86, 403, 422, 423, 424, 5, 425, 372, 373, 374, 449, 450, 451, 452, 71, 404, 453, 454, 455, 456, 68, 712, 713, 714, 715, 434, 435, 436, 437, 69, 438, 439, 440, 1201, 1202, 1203, 1204, 1205, 1206, 1207, 1208, 1209, 1210, 1211, 1212, 1213, 1214, 1215, 1216, 1217, 1218, 1219, 1220, 1221, 1222, 1223, 1224, 1225, 1226, 1227, 1228, 1229, 1230, 1231] (by decide +kernel) (by decide +kernel)
set_option maxRecDepth 20000 in
theorem gL_law_X12_hide : GoodIn wsL_law (wsV RL 92 RX12 yX12_hide wsX12_hide) := goodIn_app (goodIn_of _ (by decide +kernel)) ggL_law_X12_hide
set_option maxRecDepth 20000 in
theorem ggL_law_X11_keeps : GoodIn wsL_law wsX11_keeps := goodIn_r _ [745, 21, 519, 207, 208, 20, 209, 210, 211, 212, 213, 43, 704, 705, 706, 707, 44, 222, 223, 224, 225, 130, 131, 132, 133, 36, 42, 284, 285, 286, 287, 41, 288, 289, 290, 291, 156, 292, 293, 294, 295, 296, 150, 297, 298, 267, 299, 300, 301, 159, 302, 303, 304, 162, 305, 306, 263, 307, 308, 309, 310, 168, 311, 312, 274, 313, 230, 231, 232, 233, 234, 153, 235, 236, 237, 238, 239, 240, 241, 242, 243, 244, 245, 246, 165, 247, 248, 249, 250, 251, 252, 253, 254, 255, 256, 257, 258, 259, 260, 261, 262, 264, 265, 266, 268, 269, 270, 271, 272, 273, 275, 226, 227, 228, 229, 39, 206, 120, 2, 121, 1192, 1193, 1194, 1195, 1196, 1197, 1198, 1199, 1200, 1232, 1233, 1234, 1235, 1236, 1237, 1238, 1247, 1248, 1249, 1250, 1251, 1246, 1252, 1253] (by decide +kernel) (by decide +kernel)
set_option maxRecDepth 20000 in
theorem gL_law_X11_keeps : GoodIn wsL_law (wsV RL 93 RX11 yX11_keeps wsX11_keeps) := goodIn_app (goodIn_of _ (by decide +kernel)) ggL_law_X11_keeps
set_option maxRecDepth 20000 in
theorem ggL_law_X12_keeps : GoodIn wsL_law wsX12_keeps := goodIn_r _ [749, 86, 71, 404, 418, 419, 420, 5, 421, 422, 423, 424, 425, 403, 372, 373, 374, 449, 450, 451, 452, 453, 454, 455, 456, 68, 434, 435, 436, 437, 69, 438, 439, 440, 1201, 1202, 1203, 1204, 1205, 1206, 1207, 1208, 1209, 1210, 1211, 1212, 1213, 1214, 1215, 1216, 1217, 1218, 1219, 1220, 1221, 1222, 1223, 1224, 1225, 1226, 1227, 1228, 1229, 1230, 1231] (by decide +kernel) (by decide +kernel)
set_option maxRecDepth 20000 in
theorem gL_law_X12_keeps : GoodIn wsL_law (wsV RL 96 RX12 yX12_keeps wsX12_keeps) := goodIn_app (goodIn_of _ (by decide +kernel)) ggL_law_X12_keeps
set_option maxRecDepth 20000 in
theorem ggL_law_X11_enough : GoodIn wsL_law wsX11_enough := goodIn_r _ [753, 692, 693, 2, 694, 754, 755, 756, 757, 27, 21, 612, 613, 614, 26, 615, 616, 617, 223, 224, 225, 57, 54, 618, 597, 598, 20, 599, 43, 280, 281, 282, 283, 206, 207, 208, 209, 210, 211, 212, 213, 226, 227, 228, 229, 39, 120, 121, 130, 131, 132, 133, 36, 42, 284, 285, 286, 287, 41, 288, 289, 290, 291, 156, 292, 293, 294, 295, 296, 150, 297, 298, 267, 299, 300, 301, 159, 302, 303, 304, 162, 305, 306, 263, 307, 308, 309, 310, 168, 311, 312, 274, 313, 134, 135, 668, 669, 670, 671, 56, 623, 624, 625, 626, 627, 628, 629, 758, 759, 760, 761, 529, 596, 1192, 1193, 1194, 1195, 1196, 1197, 1198, 1199, 1200, 1232, 1233, 1234, 1235, 1236, 1237, 1238, 1239, 1240, 1241, 1242] (by decide +kernel) (by decide +kernel)
set_option maxRecDepth 20000 in
theorem gL_law_X11_enough : GoodIn wsL_law (wsV RL 97 RX11 yX11_enough wsX11_enough) := goodIn_app (goodIn_of _ (by decide +kernel)) ggL_law_X11_enough
set_option maxRecDepth 20000 in
theorem ggL_law_X12_enough : GoodIn wsL_law wsX12_enough := goodIn_r _ [765, 86, 404, 403, 372, 373, 5, 374, 654, 655, 656, 657, 83, 84, 604, 605, 606, 607, 449, 450, 451, 452, 71, 453, 454, 455, 456, 68, 658, 659, 660, 661, 662, 663, 684, 685, 686, 687, 1201, 1202, 1203, 1204, 1205, 1206, 1207, 1208, 1209, 1210, 1211, 1212, 1213, 1214, 1215, 1216, 1217, 1218, 1219, 1220, 1221, 1222, 1223, 1224, 1225, 1226, 1227, 1228, 1229, 1230, 1231] (by decide +kernel) (by decide +kernel)
set_option maxRecDepth 20000 in
theorem gL_law_X12_enough : GoodIn wsL_law (wsV RL 100 RX12 yX12_enough wsX12_enough) := goodIn_app (goodIn_of _ (by decide +kernel)) ggL_law_X12_enough
set_option maxRecDepth 20000 in
theorem ggL_law_X11_loved : GoodIn wsL_law wsX11_loved := goodIn_r _ [769, 21, 529, 692, 693, 2, 694, 520, 227, 228, 20, 229, 39, 206, 207, 208, 209, 210, 211, 212, 213, 43, 120, 121, 1192, 1193, 1194, 1195, 1196, 1197, 1198, 1199, 1200, 1232, 1233, 1234, 1235, 1236, 1237, 1238] (by decide +kernel) (by decide +kernel)
set_option maxRecDepth 20000 in
theorem gL_law_X11_loved : GoodIn wsL_law (wsV RL 101 RX11 yX11_loved wsX11_loved) := goodIn_app (goodIn_of _ (by decide +kernel)) ggL_law_X11_loved
set_option maxRecDepth 20000 in
theorem ggL_law_X12_loved : GoodIn wsL_law wsX12_loved := goodIn_r _ [773, 86, 403, 372, 373, 5, 374, 774, 775, 776, 777, 71, 1201, 1202, 1203, 1204, 1205, 1206, 1207, 1208, 1209, 1210, 1211, 1212, 1213, 1214, 1215, 1216, 1217, 1218, 1219, 1220, 1221, 1222, 1223, 1224, 1225, 1226, 1227, 1228, 1229, 1230, 1231] (by decide +kernel) (by decide +kernel)
set_option maxRecDepth 20000 in
theorem gL_law_X12_loved : GoodIn wsL_law (wsV RL 104 RX12 yX12_loved wsX12_loved) := goodIn_app (goodIn_of _ (by decide +kernel)) ggL_law_X12_loved
set_option maxRecDepth 20000 in
theorem ggL_law_X11_warmest : GoodIn wsL_law wsX11_warmest := goodIn_r _ [781, 21, 529, 520, 227, 228, 20, 229, 39, 206, 207, 208, 209, 210, 211, 212, 213, 43, 120, 2, 121, 1192, 1193, 1194, 1195, 1196, 1197, 1198, 1199, 1200, 1232, 1233, 1234, 1235, 1236, 1237, 1238] (by decide +kernel) (by decide +kernel)
set_option maxRecDepth 20000 in
theorem gL_law_X11_warmest : GoodIn wsL_law (wsV RL 105 RX11 yX11_warmest wsX11_warmest) := goodIn_app (goodIn_of _ (by decide +kernel)) ggL_law_X11_warmest
set_option maxRecDepth 20000 in
theorem ggL_law_X12_warmest : GoodIn wsL_law wsX12_warmest := goodIn_r _ [785, 86, 403, 71, 1201, 1202, 1203, 1204, 1205, 1206, 1207, 1208, 1209, 1210, 1211, 1212, 1213, 1214, 1215, 1216, 1217, 1218, 1219, 1220, 1221, 1222, 1223, 1224, 1225, 1226, 1227, 1228, 1229, 1230, 1231] (by decide +kernel) (by decide +kernel)
set_option maxRecDepth 20000 in
theorem gL_law_X12_warmest : GoodIn wsL_law (wsV RL 108 RX12 yX12_warmest wsX12_warmest) := goodIn_app (goodIn_of _ (by decide +kernel)) ggL_law_X12_warmest
set_option maxRecDepth 20000 in
theorem ggL_law_X11_orders : GoodIn wsL_law wsX11_orders := goodIn_r _ [789, 21, 790, 474, 211, 212, 20, 213, 43, 504, 315, 316, 317, 38, 210, 120, 2, 121, 1192, 1193, 1194, 1195, 1196, 1197, 1198, 1199, 1200, 1232, 1233, 1234, 1235, 1236, 1237, 1238] (by decide +kernel) (by decide +kernel)
set_option maxRecDepth 20000 in
theorem gL_law_X11_orders : GoodIn wsL_law (wsV RL 109 RX11 yX11_orders wsX11_orders) := goodIn_app (goodIn_of _ (by decide +kernel)) ggL_law_X11_orders
set_option maxRecDepth 20000 in
theorem ggL_law_X12_orders : GoodIn wsL_law wsX12_orders := goodIn_r _ [794, 86, 795, 70, 422, 423, 424, 5, 425, 403, 372, 373, 374, 1201, 1202, 1203, 1204, 1205, 1206, 1207, 1208, 1209, 1210, 1211, 1212, 1213, 1214, 1215, 1216, 1217, 1218, 1219, 1220, 1221, 1222, 1223, 1224, 1225, 1226, 1227, 1228, 1229, 1230, 1231] (by decide +kernel) (by decide +kernel)
set_option maxRecDepth 20000 in
theorem gL_law_X12_orders : GoodIn wsL_law (wsV RL 113 RX12 yX12_orders wsX12_orders) := goodIn_app (goodIn_of _ (by decide +kernel)) ggL_law_X12_orders
