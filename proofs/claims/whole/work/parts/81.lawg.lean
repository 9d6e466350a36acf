set_option maxRecDepth 20000 in
theorem ggL_law_X5_init : GoodIn wsL_law wsX5_init := goodIn_r _ [8, 9, 10, 11, 12, 13, 14, 15, 16, 17, 18, 19, 20, 21, 22, 23, 24, 25, 26, 27, 28, 29, 30, 31, 32, 33, 34, 35, 36, 37, 38, 39, 40, 41, 42, 43, 44, 45, 46, 47, 48, 49, 50, 51, 52, 53, 54, 55, 56, 57, 58, 59, 60, 61, 62, 63, 64, 65, 66, 67, 68, 69, 70, 71, 72, 73, 74, 75, 76, 77, 78, 79, 80, 81, 82, 83, 84, 85, 86, 87, 88, 89, 90, 91, 92, 93, 94, 95, 96, 97, 98, 99, 100, 101, 102, 103, 104, 105, 106, 107, 108, 109, 110, 111, 112, 113, 114, 115, 116, 117, 118, 119, 120, 121, 122, 123, 124, 125, 126, 127, 128, 129, 130, 131, 132, 133, 134, 135, 136, 137, 138, 139, 140, 141, 142, 143, 144, 145, 146, 147, 148, 149, 150, 151, 152, 153, 154, 155, 156, 157, 158, 159, 160, 161, 162, 163, 164, 165, 166, 167, 168, 169, 170, 171, 172, 173, 174, 175, 176, 177, 178, 179, 180, 181, 182, 183, 184, 185, 186, 187, 188, 2, 189, 190, 191, 192, 193, 194, 195, 196, 197, 198, 199, 200, 201, 202, 203, 204, 205, 206, 207, 208, 209, 210, 211, 212, 213, 214, 215, 216, 217, 218, 219, 220, 221, 222, 223, 224, 225, 226, 227, 228, 229, 230, 231, 232, 233, 234, 235, 236, 237, 238, 239, 240, 241, 242, 243, 244, 245, 246, 247, 248, 249, 250, 251, 252, 253, 254, 799, 800, 801, 802, 803, 804, 805, 783, 784, 785, 786, 787, 788, 806, 807, 808, 809, 810, 811, 812, 813, 814, 815, 816, 817, 818, 819, 820, 821, 822, 823, 824] (by decide +kernel) (by decide +kernel)
set_option maxRecDepth 20000 in
theorem gL_law_X5_init : GoodIn wsL_law (wsX5_init) := ggL_law_X5_init
set_option maxRecDepth 20000 in
theorem ggL_law_X6_init : GoodIn wsL_law wsX6_init := goodIn_r _ [257, 258, 10, 11, 39, 259, 260, 261, 262, 263, 264, 265, 266, 5, 267, 268, 269, 270, 271, 272, 273, 789, 790, 791, 792, 793, 794, 795, 796, 797, 798] (by decide +kernel) (by decide +kernel)
set_option maxRecDepth 20000 in
theorem gL_law_X6_init : GoodIn wsL_law (wsX6_init) := ggL_law_X6_init
set_option maxRecDepth 20000 in
theorem ggL_law_X5_append : GoodIn wsL_law wsX5_append := goodIn_r _ [277, 15, 33, 278, 125, 126, 14, 127, 128, 38, 783, 784, 785, 786, 787, 788, 799, 800, 801, 802, 803, 804, 805] (by decide +kernel) (by decide +kernel)
set_option maxRecDepth 20000 in
theorem gL_law_X5_append : GoodIn wsL_law (wsV RL 13 RX5 yX5_append wsX5_append) := goodIn_app (goodIn_of _ (by decide +kernel)) ggL_law_X5_append
set_option maxRecDepth 20000 in
theorem ggL_law_X6_append : GoodIn wsL_law wsX6_append := goodIn_r _ [282, 283, 284, 285, 262, 286, 287, 5, 288, 789, 790, 791, 792, 793, 794, 795, 796, 797, 798] (by decide +kernel) (by decide +kernel)
set_option maxRecDepth 20000 in
theorem gL_law_X6_append : GoodIn wsL_law (wsV RL 17 RX6 yX6_append wsX6_append) := goodIn_app (goodIn_of _ (by decide +kernel)) ggL_law_X6_append
set_option maxRecDepth 20000 in
theorem ggL_law_X5_clearText : GoodIn wsL_law wsX5_clearText := goodIn_r _ [292, 15, 33, 783, 784, 785, 786, 787, 788, 799, 800, 801, 802, 803, 804, 805] (by decide +kernel) (by decide +kernel)
set_option maxRecDepth 20000 in
theorem gL_law_X5_clearText : GoodIn wsL_law (wsV RL 18 RX5 yX5_clearText wsX5_clearText) := goodIn_app (goodIn_of _ (by decide +kernel)) ggL_law_X5_clearText
set_option maxRecDepth 20000 in
theorem ggL_law_X6_clearText : GoodIn wsL_law wsX6_clearText := goodIn_r _ [296, 285, 789, 790, 791, 792, 793, 794, 795, 796, 797, 798] (by decide +kernel) (by decide +kernel)
set_option maxRecDepth 20000 in
theorem gL_law_X6_clearText : GoodIn wsL_law (wsV RL 22 RX6 yX6_clearText wsX6_clearText) := goodIn_app (goodIn_of _ (by decide +kernel)) ggL_law_X6_clearText
set_option maxRecDepth 20000 in
theorem ggL_law_X5_firstError : GoodIn wsL_law wsX5_firstError := goodIn_r _ [300, 15, 19, 301, 302, 129, 130, 131, 14, 132, 133, 134, 128, 135, 136, 137, 138, 18, 139, 140, 141, 142, 143, 144, 145, 146, 147, 148, 149, 150, 151, 38, 152, 153, 154, 155, 75, 76, 77, 78, 79, 80, 81, 82, 83, 84, 85, 86, 87, 88, 89, 90, 91, 92, 93, 94, 95, 96, 97, 98, 99, 100, 101, 102, 103, 104, 105, 106, 107, 108, 109, 110, 111, 112, 113, 114, 115, 116, 117, 118, 119, 120, 121, 122, 123, 156, 157, 158, 159, 40, 160, 161, 162, 163, 164, 165, 166, 167, 168, 169, 170, 171, 172, 173, 174, 175, 44, 176, 177, 178, 179, 180, 181, 182, 183, 184, 185, 186, 187, 45, 46, 47, 48, 188, 2, 189, 190, 191, 192, 193, 194, 195, 196, 197, 198, 199, 200, 201, 202, 203, 204, 205, 206, 207, 208, 209, 210, 211, 212, 213, 49, 50, 51, 52, 214, 215, 216, 217, 783, 784, 785, 786, 787, 788, 799, 800, 801, 802, 803, 804, 805, 806, 807, 808, 809, 810, 811, 812, 813, 814, 815, 816, 817] (by decide +kernel) (by decide +kernel)
set_option maxRecDepth 20000 in
theorem gL_law_X5_firstError : GoodIn wsL_law (wsV RL 23 RX5 yX5_firstError wsX5_firstError) := goodIn_app (goodIn_of _ (by decide +kernel)) ggL_law_X5_firstError
set_option maxRecDepth 20000 in
theorem ggL_law_X6_firstError : GoodIn wsL_law wsX6_firstError := goodIn_r _ [306, 307, 308, 309, 5, 310, 260, 311, 312, 285, 265, 266, 267, 313, 314, 315, 316, 317, 318, 319, 320, 321, 262, 322, 323, 286, 287, 288, 324, 325, 326, 327, 328, 329, 330, 331, 332, 333, 334, 335, 336, 337, 338, 339, 340, 341, 342, 343, 344, 345, 346, 347, 348, 349, 268, 269, 270, 271, 272, 273, 789, 790, 791, 792, 793, 794, 795, 796, 797, 798] (by decide +kernel) (by decide +kernel)
set_option maxRecDepth 20000 in
theorem gL_law_X6_firstError : GoodIn wsL_law (wsV RL 26 RX6 yX6_firstError wsX6_firstError) := goodIn_app (goodIn_of _ (by decide +kernel)) ggL_law_X6_firstError
set_option maxRecDepth 20000 in
theorem ggL_law_X5_errorReason : GoodIn wsL_law wsX5_errorReason := goodIn_r _ [353, 15, 19, 301, 129, 130, 131, 14, 132, 133, 134, 128, 135, 136, 137, 138, 18, 139, 140, 141, 142, 143, 144, 145, 146, 147, 148, 149, 150, 151, 38, 152, 153, 154, 155, 75, 76, 77, 78, 79, 80, 81, 82, 83, 84, 85, 86, 87, 88, 89, 90, 91, 92, 93, 94, 95, 96, 97, 98, 99, 100, 101, 102, 103, 104, 105, 106, 107, 108, 109, 110, 111, 112, 113, 114, 115, 116, 117, 118, 119, 120, 121, 122, 123, 156, 157, 158, 159, 40, 160, 161, 162, 163, 164, 165, 166, 167, 168, 169, 170, 171, 172, 173, 174, 175, 44, 176, 177, 178, 179, 180, 181, 182, 183, 184, 185, 186, 187, 45, 46, 47, 48, 188, 2, 189, 190, 191, 192, 193, 194, 195, 196, 197, 198, 199, 200, 201, 202, 203, 204, 205, 206, 207, 208, 209, 210, 211, 212, 213, 49, 50, 51, 52, 214, 215, 216, 217, 783, 784, 785, 786, 787, 788, 799, 800, 801, 802, 803, 804, 805, 806, 807, 808, 809, 810, 811, 812, 813, 814, 815, 816, 817] (by decide +kernel) (by decide +kernel)
set_option maxRecDepth 20000 in
theorem gL_law_X5_errorReason : GoodIn wsL_law (wsV RL 27 RX5 yX5_errorReason wsX5_errorReason) := goodIn_app (goodIn_of _ (by decide +kernel)) ggL_law_X5_errorReason
set_option maxRecDepth 20000 in
theorem ggL_law_X6_errorReason : GoodIn wsL_law wsX6_errorReason := goodIn_r _ [357, 312, 307, 308, 309, 5, 310, 260, 311, 285, 265, 266, 267, 313, 314, 315, 316, 317, 318, 319, 320, 321, 262, 322, 323, 286, 287, 288, 324, 325, 326, 327, 328, 329, 330, 331, 332, 333, 334, 335, 336, 337, 338, 339, 340, 341, 342, 343, 344, 345, 346, 347, 348, 349, 268, 269, 270, 271, 272, 273, 789, 790, 791, 792, 793, 794, 795, 796, 797, 798] (by decide +kernel) (by decide +kernel)
set_option maxRecDepth 20000 in
theorem gL_law_X6_errorReason : GoodIn wsL_law (wsV RL 30 RX6 yX6_errorReason wsX6_errorReason) := goodIn_app (goodIn_of _ (by decide +kernel)) ggL_law_X6_errorReason
set_option maxRecDepth 20000 in
theorem ggL_law_X5_configure : GoodIn wsL_law wsX5_configure := goodIn_r _ [361, 15, 19, 301, 362, 363, 20, 129, 130, 131, 14, 132, 133, 134, 128, 135, 136, 137, 138, 18, 139, 140, 141, 142, 143, 144, 145, 146, 147, 148, 149, 150, 151, 38, 152, 153, 154, 155, 75, 76, 77, 78, 79, 80, 81, 82, 83, 84, 85, 86, 87, 88, 89, 90, 91, 92, 93, 94, 95, 96, 97, 98, 99, 100, 101, 102, 103, 104, 105, 106, 107, 108, 109, 110, 111, 112, 113, 114, 115, 116, 117, 118, 119, 120, 121, 122, 123, 156, 157, 158, 159, 40, 160, 161, 162, 163, 164, 165, 166, 167, 168, 169, 170, 171, 172, 173, 174, 175, 44, 176, 177, 178, 179, 180, 181, 182, 183, 184, 185, 186, 187, 45, 46, 47, 48, 188, 2, 189, 190, 191, 192, 193, 194, 195, 196, 197, 198, 199, 200, 201, 202, 203, 204, 205, 206, 207, 208, 209, 210, 211, 212, 213, 49, 50, 51, 52, 214, 215, 216, 217, 218, 219, 220, 221, 32, 222, 24, 223, 224, 225, 226, 227, 228, 229, 230, 231, 232, 233, 23, 234, 58, 59, 235, 236, 237, 238, 239, 240, 241, 242, 243, 244, 245, 246, 247, 248, 249, 250, 251, 252, 253, 254, 783, 784, 785, 786, 787, 788, 799, 800, 801, 802, 803, 804, 805, 806, 807, 808, 809, 810, 811, 812, 813, 814, 815, 816, 817, 823, 824, 818, 819] (by decide +kernel) (by decide +kernel)
set_option maxRecDepth 20000 in
theorem gL_law_X5_configure : GoodIn wsL_law (wsV RL 31 RX5 yX5_configure wsX5_configure) := goodIn_app (goodIn_of _ (by decide +kernel)) ggL_law_X5_configure
set_option maxRecDepth 20000 in
theorem ggL_law_X6_configure : GoodIn wsL_law wsX6_configure := goodIn_r _ [367, 260, 259, 368, 307, 308, 309, 5, 310, 311, 312, 285, 265, 266, 267, 313, 314, 315, 316, 317, 318, 319, 320, 321, 262, 322, 323, 286, 287, 288, 324, 325, 326, 327, 328, 329, 330, 331, 332, 333, 334, 335, 336, 337, 338, 339, 340, 341, 342, 343, 344, 345, 346, 347, 348, 349, 268, 269, 270, 271, 272, 273, 789, 790, 791, 792, 793, 794, 795, 796, 797, 798] (by decide +kernel) (by decide +kernel)
set_option maxRecDepth 20000 in
theorem gL_law_X6_configure : GoodIn wsL_law (wsV RL 34 RX6 yX6_configure wsX6_configure) := goodIn_app (goodIn_of _ (by decide +kernel)) ggL_law_X6_configure
set_option maxRecDepth 20000 in
theorem ggL_law_X5_addAppearance : GoodIn wsL_law wsX5_addAppearance := goodIn_r _ [372, 20, 373, 32, 24, 374, 199, 200, 18, 201, 44, 202, 203, 204, 205, 141, 206, 207, 208, 209, 140, 375, 376, 377, 31, 378, 379, 70, 380, 381, 382, 383, 384, 224, 225, 226, 142, 227, 228, 229, 230, 45, 46, 47, 48, 49, 50, 51, 52, 385, 211, 212, 213, 214, 215, 216, 217, 231, 232, 233, 23, 234, 58, 59, 235, 236, 237, 238, 239, 240, 241, 242, 243, 244, 245, 246, 247, 248, 249, 2, 250, 251, 252, 253, 254, 386, 387, 388, 389, 363, 390, 391, 392, 393, 394, 395, 396, 397, 398, 399, 783, 784, 785, 786, 787, 788, 806, 807, 808, 809, 810, 811, 812, 813, 814, 815, 816, 817, 823, 824, 818, 819] (by decide +kernel) (by decide +kernel)
set_option maxRecDepth 20000 in
theorem gL_law_X5_addAppearance : GoodIn wsL_law (wsV RL 35 RX5 yX5_addAppearance wsX5_addAppearance) := goodIn_app (goodIn_of _ (by decide +kernel)) ggL_law_X5_addAppearance
set_option maxRecDepth 20000 in
theorem ggL_law_X6_addAppearance : GoodIn wsL_law wsX6_addAppearance := goodIn_r _ [403, 259, 404, 405, 406, 5, 407, 286, 287, 288, 408, 409, 410, 411, 412, 413, 414, 415, 368, 261, 271, 272, 273, 416, 417, 418, 419, 263, 420, 421, 422, 423, 424, 425, 426, 427, 428, 429, 430, 431, 432, 433, 434, 435, 436, 437, 438, 439, 440, 441, 442, 443, 444, 445, 446, 447, 448, 449, 450, 451, 452, 453, 454, 455, 456, 789, 790, 791, 792, 793, 794, 795, 796, 797, 798] (by decide +kernel) (by decide +kernel)
set_option maxRecDepth 20000 in
theorem gL_law_X6_addAppearance : GoodIn wsL_law (wsV RL 39 RX6 yX6_addAppearance wsX6_addAppearance) := goodIn_app (goodIn_of _ (by decide +kernel)) ggL_law_X6_addAppearance
set_option maxRecDepth 20000 in
theorem ggL_law_X5_removeAppearance : GoodIn wsL_law wsX5_removeAppearance := goodIn_r _ [460, 20, 373, 32, 24, 375, 376, 377, 31, 378, 379, 70, 380, 381, 382, 383, 384, 224, 225, 18, 226, 140, 141, 142, 44, 227, 228, 229, 230, 45, 46, 47, 48, 49, 50, 51, 52, 461, 462, 463, 464, 231, 232, 233, 23, 234, 58, 59, 235, 236, 237, 238, 239, 240, 241, 242, 243, 244, 245, 246, 247, 248, 249, 2, 250, 251, 252, 253, 254, 783, 784, 785, 786, 787, 788, 806, 807, 808, 809, 810, 811, 812, 813, 814, 815, 816, 817, 823, 824, 818, 819] (by decide +kernel) (by decide +kernel)
set_option maxRecDepth 20000 in
theorem gL_law_X5_removeAppearance : GoodIn wsL_law (wsV RL 40 RX5 yX5_removeAppearance wsX5_removeAppearance) := goodIn_app (goodIn_of _ (by decide +kernel)) ggL_law_X5_removeAppearance
set_option maxRecDepth 20000 in
theorem ggL_law_X6_removeAppearance : GoodIn wsL_law wsX6_removeAppearance := goodIn_r _ [468, 259, 286, 287, 5, 288, 412, 413, 414, 415, 368, 261, 789, 790, 791, 792, 793, 794, 795, 796, 797, 798] (by decide +kernel) (by decide +kernel)
set_option maxRecDepth 20000 in
theorem gL_law_X6_removeAppearance : GoodIn wsL_law (wsV RL 43 RX6 yX6_removeAppearance wsX6_removeAppearance) := goodIn_app (goodIn_of _ (by decide +kernel)) ggL_law_X6_removeAppearance
set_option maxRecDepth 20000 in
theorem ggL_law_X5_setChangeTimes : GoodIn wsL_law wsX5_setChangeTimes := goodIn_r _ [472, 20, 32, 473, 474, 24, 475, 203, 204, 18, 205, 141, 476, 188, 2, 189, 375, 376, 377, 31, 378, 379, 70, 380, 381, 382, 383, 384, 224, 225, 226, 140, 142, 44, 227, 228, 229, 230, 45, 46, 47, 48, 49, 50, 51, 52, 231, 232, 233, 23, 234, 58, 59, 235, 236, 237, 238, 239, 240, 241, 242, 243, 244, 245, 246, 247, 248, 249, 250, 251, 252, 253, 254, 386, 387, 388, 389, 363, 390, 391, 392, 393, 394, 395, 396, 397, 398, 399, 783, 784, 785, 786, 787, 788, 806, 807, 808, 809, 810, 811, 812, 813, 814, 815, 816, 817, 823, 824, 818, 819] (by decide +kernel) (by decide +kernel)
set_option maxRecDepth 20000 in
theorem gL_law_X5_setChangeTimes : GoodIn wsL_law (wsV RL 44 RX5 yX5_setChangeTimes wsX5_setChangeTimes) := goodIn_app (goodIn_of _ (by decide +kernel)) ggL_law_X5_setChangeTimes
set_option maxRecDepth 20000 in
theorem ggL_law_X6_setChangeTimes : GoodIn wsL_law wsX6_setChangeTimes := goodIn_r _ [480, 481, 259, 404, 405, 406, 5, 407, 286, 287, 288, 412, 413, 414, 415, 368, 261, 416, 417, 418, 419, 263, 420, 421, 422, 423, 424, 425, 426, 427, 428, 429, 430, 431, 432, 433, 434, 435, 436, 437, 438, 439, 440, 441, 442, 443, 444, 445, 446, 447, 448, 449, 450, 451, 452, 453, 454, 455, 456, 789, 790, 791, 792, 793, 794, 795, 796, 797, 798] (by decide +kernel) (by decide +kernel)
set_option maxRecDepth 20000 in
theorem gL_law_X6_setChangeTimes : GoodIn wsL_law (wsV RL 48 RX6 yX6_setChangeTimes wsX6_setChangeTimes) := goodIn_app (goodIn_of _ (by decide +kernel)) ggL_law_X6_setChangeTimes
set_option maxRecDepth 20000 in
theorem ggL_law_X5_cast : GoodIn wsL_law wsX5_cast := goodIn_r _ [485, 20, 363, 32, 390, 475, 203, 204, 18, 205, 141, 486, 487, 2, 488, 391, 392, 393, 394, 24, 395, 396, 397, 23, 398, 59, 399, 58, 375, 376, 377, 31, 378, 379, 70, 380, 381, 382, 383, 384, 224, 225, 226, 140, 142, 44, 227, 228, 229, 230, 45, 46, 47, 48, 49, 50, 51, 52, 489, 490, 491, 492, 493, 494, 495, 496, 497, 498, 499, 783, 784, 785, 786, 787, 788, 806, 807, 808, 809, 810, 811, 812, 813, 814, 815, 816, 817, 818, 819, 823, 824] (by decide +kernel) (by decide +kernel)
set_option maxRecDepth 20000 in
theorem gL_law_X5_cast : GoodIn wsL_law (wsV RL 49 RX5 yX5_cast wsX5_cast) := goodIn_app (goodIn_of _ (by decide +kernel)) ggL_law_X5_cast
set_option maxRecDepth 20000 in
theorem ggL_law_X6_cast : GoodIn wsL_law wsX6_cast := goodIn_r _ [503, 263, 259, 404, 405, 406, 5, 407, 286, 287, 288, 504, 505, 506, 507, 420, 421, 422, 423, 424, 425, 426, 427, 428, 429, 430, 431, 432, 433, 434, 435, 436, 437, 438, 439, 440, 441, 442, 443, 444, 445, 446, 447, 448, 449, 450, 451, 452, 453, 454, 455, 456, 508, 509, 510, 511, 412, 413, 414, 415, 368, 261, 512, 513, 514, 789, 790, 791, 792, 793, 794, 795, 796, 797, 798] (by decide +kernel) (by decide +kernel)
set_option maxRecDepth 20000 in
theorem gL_law_X6_cast : GoodIn wsL_law (wsV RL 53 RX6 yX6_cast wsX6_cast) := goodIn_app (goodIn_of _ (by decide +kernel)) ggL_law_X6_cast
set_option maxRecDepth 20000 in
theorem ggL_law_X5_uncast : GoodIn wsL_law wsX5_uncast := goodIn_r _ [518, 20, 390, 32, 475, 203, 204, 18, 205, 141, 375, 376, 377, 31, 378, 379, 70, 380, 381, 382, 383, 384, 224, 225, 226, 140, 142, 44, 227, 228, 229, 230, 45, 46, 47, 48, 49, 50, 51, 52, 783, 784, 785, 786, 787, 788, 806, 807, 808, 809, 810, 811, 812, 813, 814, 815, 816, 817, 823, 824] (by decide +kernel) (by decide +kernel)
set_option maxRecDepth 20000 in
theorem gL_law_X5_uncast : GoodIn wsL_law (wsV RL 54 RX5 yX5_uncast wsX5_uncast) := goodIn_app (goodIn_of _ (by decide +kernel)) ggL_law_X5_uncast
set_option maxRecDepth 20000 in
theorem ggL_law_X6_uncast : GoodIn wsL_law wsX6_uncast := goodIn_r _ [522, 259, 404, 405, 406, 5, 407, 286, 287, 288, 412, 413, 414, 415, 368, 261, 789, 790, 791, 792, 793, 794, 795, 796, 797, 798] (by decide +kernel) (by decide +kernel)
set_option maxRecDepth 20000 in
theorem gL_law_X6_uncast : GoodIn wsL_law (wsV RL 57 RX6 yX6_uncast wsX6_uncast) := goodIn_app (goodIn_of _ (by decide +kernel)) ggL_law_X6_uncast
set_option maxRecDepth 20000 in
theorem ggL_law_X5_adoptFirstCast : GoodIn wsL_law wsX5_adoptFirstCast := goodIn_r _ [526, 32, 20, 28, 24, 363, 390, 375, 376, 377, 31, 378, 379, 70, 380, 381, 382, 383, 384, 224, 225, 18, 226, 140, 141, 142, 44, 227, 228, 229, 230, 45, 46, 47, 48, 49, 50, 51, 52, 527, 528, 529, 27, 530, 531, 532, 533, 63, 534, 396, 397, 23, 398, 59, 399, 58, 535, 536, 537, 538, 539, 540, 541, 542, 543, 252, 253, 254, 544, 545, 546, 547, 64, 548, 549, 550, 551, 552, 553, 554, 555, 556, 557, 558, 559, 560, 561, 783, 784, 785, 786, 787, 788, 806, 807, 808, 809, 810, 811, 812, 813, 814, 815, 816, 817, 823, 824, 818, 819, 820, 821, 822] (by decide +kernel) (by decide +kernel)
set_option maxRecDepth 20000 in
theorem gL_law_X5_adoptFirstCast : GoodIn wsL_law (wsV RL 58 RX5 yX5_adoptFirstCast wsX5_adoptFirstCast) := goodIn_app (goodIn_of _ (by decide +kernel)) ggL_law_X5_adoptFirstCast
set_option maxRecDepth 20000 in
theorem ggL_law_X6_adoptFirstCast : GoodIn wsL_law wsX6_adoptFirstCast := goodIn_r _ [565, 259, 264, 412, 413, 414, 5, 415, 368, 261, 566, 567, 568, 569, 420, 421, 422, 423, 263, 424, 425, 426, 427, 428, 429, 430, 431, 432, 433, 434, 435, 436, 437, 438, 439, 440, 441, 442, 443, 444, 445, 446, 447, 448, 449, 450, 451, 452, 453, 454, 455, 456, 570, 571, 572, 573, 574, 575, 576, 577, 789, 790, 791, 792, 793, 794, 795, 796, 797, 798] (by decide +kernel) (by decide +kernel)
set_option maxRecDepth 20000 in
theorem gL_law_X6_adoptFirstCast : GoodIn wsL_law (wsV RL 61 RX6 yX6_adoptFirstCast wsX6_adoptFirstCast) := goodIn_app (goodIn_of _ (by decide +kernel)) ggL_law_X6_adoptFirstCast
set_option maxRecDepth 20000 in
theorem ggL_law_X5_undo : GoodIn wsL_law wsX5_undo := goodIn_r _ [581, 32, 222, 20, 24, 582, 583, 584, 31, 585, 379, 70, 384, 224, 225, 18, 226, 140, 141, 142, 44, 227, 228, 229, 230, 45, 46, 47, 48, 49, 50, 51, 52, 231, 232, 233, 23, 234, 58, 59, 235, 236, 237, 238, 239, 240, 241, 242, 243, 244, 245, 246, 247, 248, 249, 2, 250, 251, 252, 253, 254, 783, 784, 785, 786, 787, 788, 823, 824, 806, 807, 808, 809, 810, 811, 812, 813, 814, 815, 816, 817, 818, 819] (by decide +kernel) (by decide +kernel)
set_option maxRecDepth 20000 in
theorem gL_law_X5_undo : GoodIn wsL_law (wsV RL 62 RX5 yX5_undo wsX5_undo) := goodIn_app (goodIn_of _ (by decide +kernel)) ggL_law_X5_undo
set_option maxRecDepth 20000 in
theorem ggL_law_X6_undo : GoodIn wsL_law wsX6_undo := goodIn_r _ [589, 368, 259, 261, 789, 790, 791, 792, 793, 794, 795, 796, 797, 798] (by decide +kernel) (by decide +kernel)
set_option maxRecDepth 20000 in
theorem gL_law_X6_undo : GoodIn wsL_law (wsV RL 65 RX6 yX6_undo wsX6_undo) := goodIn_app (goodIn_of _ (by decide +kernel)) ggL_law_X6_undo
set_option maxRecDepth 20000 in
theorem ggL_law_X5_roleCount : GoodIn wsL_law wsX5_roleCount := goodIn_r _ [593, 20, 363, 783, 784, 785, 786, 787, 788, 806, 807, 808, 809, 810, 811, 812, 813, 814, 815, 816, 817] (by decide +kernel) (by decide +kernel)
set_option maxRecDepth 20000 in
theorem gL_law_X5_roleCount : GoodIn wsL_law (wsV RL 66 RX5 yX5_roleCount wsX5_roleCount) := goodIn_app (goodIn_of _ (by decide +kernel)) ggL_law_X5_roleCount
set_option maxRecDepth 20000 in
theorem ggL_law_X6_roleCount : GoodIn wsL_law wsX6_roleCount := goodIn_r _ [597, 259, 789, 790, 791, 792, 793, 794, 795, 796, 797, 798] (by decide +kernel) (by decide +kernel)
set_option maxRecDepth 20000 in
theorem gL_law_X6_roleCount : GoodIn wsL_law (wsV RL 69 RX6 yX6_roleCount wsX6_roleCount) := goodIn_app (goodIn_of _ (by decide +kernel)) ggL_law_X6_roleCount
set_option maxRecDepth 20000 in
theorem ggL_law_X5_appearanceCount : GoodIn wsL_law wsX5_appearanceCount := goodIn_r _ [601, 20, 373, 783, 784, 785, 786, 787, 788, 806, 807, 808, 809, 810, 811, 812, 813, 814, 815, 816, 817] (by decide +kernel) (by decide +kernel)
set_option maxRecDepth 20000 in
theorem gL_law_X5_appearanceCount : GoodIn wsL_law (wsV RL 70 RX5 yX5_appearanceCount wsX5_appearanceCount) := goodIn_app (goodIn_of _ (by decide +kernel)) ggL_law_X5_appearanceCount
set_option maxRecDepth 20000 in
theorem ggL_law_X6_appearanceCount : GoodIn wsL_law wsX6_appearanceCount := goodIn_r _ [605, 259, 789, 790, 791, 792, 793, 794, 795, 796, 797, 798] (by decide +kernel) (by decide +kernel)
set_option maxRecDepth 20000 in
theorem gL_law_X6_appearanceCount : GoodIn wsL_law (wsV RL 73 RX6 yX6_appearanceCount wsX6_appearanceCount) := goodIn_app (goodIn_of _ (by decide +kernel)) ggL_law_X6_appearanceCount
set_option maxRecDepth 20000 in
theorem ggL_law_X5_playLength : GoodIn wsL_law wsX5_playLength := goodIn_r _ [609, 20, 362, 610, 215, 216, 18, 217, 140, 44, 783, 784, 785, 786, 787, 788, 806, 807, 808, 809, 810, 811, 812, 813, 814, 815, 816, 817] (by decide +kernel) (by decide +kernel)
set_option maxRecDepth 20000 in
theorem gL_law_X5_playLength : GoodIn wsL_law (wsV RL 74 RX5 yX5_playLength wsX5_playLength) := goodIn_app (goodIn_of _ (by decide +kernel)) ggL_law_X5_playLength
set_option maxRecDepth 20000 in
theorem ggL_law_X6_playLength : GoodIn wsL_law wsX6_playLength := goodIn_r _ [614, 259, 440, 441, 442, 5, 443, 789, 790, 791, 792, 793, 794, 795, 796, 797, 798] (by decide +kernel) (by decide +kernel)
set_option maxRecDepth 20000 in
theorem gL_law_X6_playLength : GoodIn wsL_law (wsV RL 77 RX6 yX6_playLength wsX6_playLength) := goodIn_app (goodIn_of _ (by decide +kernel)) ggL_law_X6_playLength
set_option maxRecDepth 20000 in
theorem ggL_law_X5_onStage : GoodIn wsL_law wsX5_onStage := goodIn_r _ [618, 20, 362, 610, 215, 216, 18, 217, 140, 44, 619, 620, 621, 622, 142, 51, 52, 49, 783, 784, 785, 786, 787, 788, 806, 807, 808, 809, 810, 811, 812, 813, 814, 815, 816, 817] (by decide +kernel) (by decide +kernel)
set_option maxRecDepth 20000 in
theorem gL_law_X5_onStage : GoodIn wsL_law (wsV RL 78 RX5 yX5_onStage wsX5_onStage) := goodIn_app (goodIn_of _ (by decide +kernel)) ggL_law_X5_onStage
set_option maxRecDepth 20000 in
theorem ggL_law_X6_onStage : GoodIn wsL_law wsX6_onStage := goodIn_r _ [626, 627, 612, 613, 5, 614, 259, 440, 441, 442, 443, 286, 287, 288, 628, 629, 630, 631, 436, 437, 438, 439, 444, 445, 446, 447, 432, 433, 434, 435, 789, 790, 791, 792, 793, 794, 795, 796, 797, 798] (by decide +kernel) (by decide +kernel)
set_option maxRecDepth 20000 in
theorem gL_law_X6_onStage : GoodIn wsL_law (wsV RL 81 RX6 yX6_onStage wsX6_onStage) := goodIn_app (goodIn_of _ (by decide +kernel)) ggL_law_X6_onStage
set_option maxRecDepth 20000 in
theorem ggL_law_X5_peak : GoodIn wsL_law wsX5_peak := goodIn_r _ [635, 20, 373, 636, 637, 552, 253, 553, 619, 620, 621, 18, 622, 142, 51, 52, 49, 493, 494, 495, 496, 497, 498, 499, 783, 784, 785, 786, 787, 788, 806, 807, 808, 809, 810, 811, 812, 813, 814, 815, 816, 817] (by decide +kernel) (by decide +kernel)
set_option maxRecDepth 20000 in
theorem gL_law_X5_peak : GoodIn wsL_law (wsV RL 82 RX5 yX5_peak wsX5_peak) := goodIn_app (goodIn_of _ (by decide +kernel)) ggL_law_X5_peak
set_option maxRecDepth 20000 in
theorem ggL_law_X6_peak : GoodIn wsL_law wsX6_peak := goodIn_r _ [641, 259, 436, 437, 438, 5, 439, 440, 441, 442, 443, 628, 629, 630, 631, 444, 445, 446, 447, 432, 433, 434, 435, 512, 513, 514, 789, 790, 791, 792, 793, 794, 795, 796, 797, 798] (by decide +kernel) (by decide +kernel)
set_option maxRecDepth 20000 in
theorem gL_law_X6_peak : GoodIn wsL_law (wsV RL 85 RX6 yX6_peak wsX6_peak) := goodIn_app (goodIn_of _ (by decide +kernel)) ggL_law_X6_peak
set_option maxRecDepth 20000 in
theorem ggL_law_X5_rolesInScene : GoodIn wsL_law wsX5_rolesInScene := goodIn_r _ [645, 20, 373, 646, 647, 648, 207, 208, 18, 209, 140, 783, 784, 785, 786, 787, 788, 806, 807, 808, 809, 810, 811, 812, 813, 814, 815, 816, 817] (by decide +kernel) (by decide +kernel)
set_option maxRecDepth 20000 in
theorem gL_law_X5_rolesInScene : GoodIn wsL_law (wsV RL 86 RX5 yX5_rolesInScene wsX5_rolesInScene) := goodIn_app (goodIn_of _ (by decide +kernel)) ggL_law_X5_rolesInScene
set_option maxRecDepth 20000 in
theorem ggL_law_X6_rolesInScene : GoodIn wsL_law wsX6_rolesInScene := goodIn_r _ [652, 259, 408, 409, 410, 5, 411, 286, 287, 288, 432, 433, 434, 435, 789, 790, 791, 792, 793, 794, 795, 796, 797, 798] (by decide +kernel) (by decide +kernel)
set_option maxRecDepth 20000 in
theorem gL_law_X6_rolesInScene : GoodIn wsL_law (wsV RL 89 RX6 yX6_rolesInScene wsX6_rolesInScene) := goodIn_app (goodIn_of _ (by decide +kernel)) ggL_law_X6_rolesInScene
set_option maxRecDepth 20000 in
theorem ggL_law_X5_conflict : GoodIn wsL_law wsX5_conflict := goodIn_r _ [656, 24, 657, 658, 659, 2, 660, 20, 475, 203, 204, 18, 205, 141, 395, 396, 397, 23, 398, 59, 399, 58, 783, 784, 785, 786, 787, 788, 806, 807, 808, 809, 810, 811, 812, 813, 814, 815, 816, 817, 818, 819] (by decide +kernel) (by decide +kernel)
set_option maxRecDepth 20000 in
theorem gL_law_X5_conflict : GoodIn wsL_law (wsV RL 90 RX5 yX5_conflict wsX5_conflict) := goodIn_app (goodIn_of _ (by decide +kernel)) ggL_law_X5_conflict
set_option maxRecDepth 20000 in
theorem ggL_law_X6_conflict : GoodIn wsL_law wsX6_conflict := goodIn_r _ [664, 665, 666, 667, 5, 668, 404, 405, 406, 407, 259, 286, 287, 288, 424, 425, 426, 427, 428, 429, 430, 431, 432, 433, 434, 435, 436, 437, 438, 439, 440, 441, 442, 443, 444, 445, 446, 447, 448, 449, 450, 451, 452, 453, 454, 455, 456, 789, 790, 791, 792, 793, 794, 795, 796, 797, 798] (by decide +kernel) (by decide +kernel)
set_option maxRecDepth 20000 in
theorem gL_law_X6_conflict : GoodIn wsL_law (wsV RL 93 RX6 yX6_conflict wsX6_conflict) := goodIn_app (goodIn_of _ (by decide +kernel)) ggL_law_X6_conflict
set_option maxRecDepth 20000 in
theorem ggL_law_X5_conflictCount : GoodIn wsL_law wsX5_conflictCount := goodIn_r _ [672, 20, 363, 24, 395, 396, 397, 23, 398, 59, 399, 58, 783, 784, 785, 786, 787, 788, 806, 807, 808, 809, 810, 811, 812, 813, 814, 815, 816, 817, 818, 819] (by decide +kernel) (by decide +kernel)
set_option maxRecDepth 20000 in
theorem gL_law_X5_conflictCount : GoodIn wsL_law (wsV RL 94 RX5 yX5_conflictCount wsX5_conflictCount) := goodIn_app (goodIn_of _ (by decide +kernel)) ggL_law_X5_conflictCount
set_option maxRecDepth 20000 in
theorem ggL_law_X6_conflictCount : GoodIn wsL_law wsX6_conflictCount := goodIn_r _ [676, 259, 263, 420, 421, 422, 5, 423, 424, 425, 426, 427, 428, 429, 430, 431, 432, 433, 434, 435, 436, 437, 438, 439, 440, 441, 442, 443, 444, 445, 446, 447, 448, 449, 450, 451, 452, 453, 454, 455, 456, 512, 513, 514, 789, 790, 791, 792, 793, 794, 795, 796, 797, 798] (by decide +kernel) (by decide +kernel)
set_option maxRecDepth 20000 in
theorem gL_law_X6_conflictCount : GoodIn wsL_law (wsV RL 97 RX6 yX6_conflictCount wsX6_conflictCount) := goodIn_app (goodIn_of _ (by decide +kernel)) ggL_law_X6_conflictCount
set_option maxRecDepth 20000 in
theorem ggL_law_X5_slack : GoodIn wsL_law wsX5_slack := goodIn_r _ [680, 24, 681, 657, 658, 659, 2, 660, 20, 475, 203, 204, 18, 205, 141, 783, 784, 785, 786, 787, 788, 818, 819, 806, 807, 808, 809, 810, 811, 812, 813, 814, 815, 816, 817] (by decide +kernel) (by decide +kernel)
set_option maxRecDepth 20000 in
theorem gL_law_X5_slack : GoodIn wsL_law (wsV RL 98 RX5 yX5_slack wsX5_slack) := goodIn_app (goodIn_of _ (by decide +kernel)) ggL_law_X5_slack
set_option maxRecDepth 20000 in
theorem ggL_law_X6_slack : GoodIn wsL_law wsX6_slack := goodIn_r _ [685, 452, 665, 666, 667, 5, 668, 404, 405, 406, 407, 259, 286, 287, 288, 428, 429, 430, 431, 432, 433, 434, 435, 436, 437, 438, 439, 440, 441, 442, 443, 444, 445, 446, 447, 686, 687, 688, 689, 448, 449, 450, 451, 453, 454, 455, 456, 789, 790, 791, 792, 793, 794, 795, 796, 797, 798] (by decide +kernel) (by decide +kernel)
set_option maxRecDepth 20000 in
theorem gL_law_X6_slack : GoodIn wsL_law (wsV RL 101 RX6 yX6_slack wsX6_slack) := goodIn_app (goodIn_of _ (by decide +kernel)) ggL_law_X6_slack
set_option maxRecDepth 20000 in
theorem ggL_law_X5_actorOf : GoodIn wsL_law wsX5_actorOf := goodIn_r _ [693, 20, 390, 475, 203, 204, 18, 205, 141, 783, 784, 785, 786, 787, 788, 806, 807, 808, 809, 810, 811, 812, 813, 814, 815, 816, 817] (by decide +kernel) (by decide +kernel)
set_option maxRecDepth 20000 in
theorem gL_law_X5_actorOf : GoodIn wsL_law (wsV RL 102 RX5 yX5_actorOf wsX5_actorOf) := goodIn_app (goodIn_of _ (by decide +kernel)) ggL_law_X5_actorOf
set_option maxRecDepth 20000 in
theorem ggL_law_X6_actorOf : GoodIn wsL_law wsX6_actorOf := goodIn_r _ [697, 259, 404, 405, 406, 5, 407, 286, 287, 288, 789, 790, 791, 792, 793, 794, 795, 796, 797, 798] (by decide +kernel) (by decide +kernel)
set_option maxRecDepth 20000 in
theorem gL_law_X6_actorOf : GoodIn wsL_law (wsV RL 105 RX6 yX6_actorOf wsX6_actorOf) := goodIn_app (goodIn_of _ (by decide +kernel)) ggL_law_X6_actorOf
set_option maxRecDepth 20000 in
theorem ggL_law_X5_rolesOf : GoodIn wsL_law wsX5_rolesOf := goodIn_r _ [701, 20, 486, 487, 2, 488, 489, 490, 491, 18, 492, 141, 48, 783, 784, 785, 786, 787, 788, 806, 807, 808, 809, 810, 811, 812, 813, 814, 815, 816, 817] (by decide +kernel) (by decide +kernel)
set_option maxRecDepth 20000 in
theorem gL_law_X5_rolesOf : GoodIn wsL_law (wsV RL 106 RX5 yX5_rolesOf wsX5_rolesOf) := goodIn_app (goodIn_of _ (by decide +kernel)) ggL_law_X5_rolesOf
set_option maxRecDepth 20000 in
theorem ggL_law_X6_rolesOf : GoodIn wsL_law wsX6_rolesOf := goodIn_r _ [705, 504, 505, 5, 506, 507, 286, 287, 288, 508, 509, 510, 511, 259, 789, 790, 791, 792, 793, 794, 795, 796, 797, 798] (by decide +kernel) (by decide +kernel)
set_option maxRecDepth 20000 in
theorem gL_law_X6_rolesOf : GoodIn wsL_law (wsV RL 109 RX6 yX6_rolesOf wsX6_rolesOf) := goodIn_app (goodIn_of _ (by decide +kernel)) ggL_law_X6_rolesOf
set_option maxRecDepth 20000 in
theorem ggL_law_X5_tightestChange : GoodIn wsL_law wsX5_tightestChange := goodIn_r _ [709, 20, 363, 390, 24, 681, 486, 487, 2, 488, 710, 249, 250, 251, 252, 253, 254, 783, 784, 785, 786, 787, 788, 806, 807, 808, 809, 810, 811, 812, 813, 814, 815, 816, 817, 818, 819] (by decide +kernel) (by decide +kernel)
set_option maxRecDepth 20000 in
theorem gL_law_X5_tightestChange : GoodIn wsL_law (wsV RL 110 RX5 yX5_tightestChange wsX5_tightestChange) := goodIn_app (goodIn_of _ (by decide +kernel)) ggL_law_X5_tightestChange
set_option maxRecDepth 20000 in
theorem ggL_law_X6_tightestChange : GoodIn wsL_law wsX6_tightestChange := goodIn_r _ [714, 452, 259, 504, 505, 5, 506, 507, 286, 287, 288, 686, 687, 688, 689, 448, 449, 450, 451, 436, 437, 438, 439, 440, 441, 442, 443, 444, 445, 446, 447, 432, 433, 434, 435, 453, 454, 455, 456, 789, 790, 791, 792, 793, 794, 795, 796, 797, 798] (by decide +kernel) (by decide +kernel)
set_option maxRecDepth 20000 in
theorem gL_law_X6_tightestChange : GoodIn wsL_law (wsV RL 113 RX6 yX6_tightestChange wsX6_tightestChange) := goodIn_app (goodIn_of _ (by decide +kernel)) ggL_law_X6_tightestChange
set_option maxRecDepth 20000 in
theorem ggL_law_X5_cliqueNumber : GoodIn wsL_law wsX5_cliqueNumber := goodIn_r _ [718, 28, 24, 527, 528, 529, 27, 530, 531, 532, 533, 63, 534, 396, 397, 23, 398, 59, 399, 58, 719, 720, 721, 722, 551, 552, 253, 553, 723, 724, 725, 726, 727, 494, 495, 496, 497, 498, 499, 783, 784, 785, 786, 787, 788, 818, 819, 806, 807, 808, 809, 810, 811, 812, 813, 814, 815, 816, 817, 820, 821, 822] (by decide +kernel) (by decide +kernel)
set_option maxRecDepth 20000 in
theorem gL_law_X5_cliqueNumber : GoodIn wsL_law (wsV RL 114 RX5 yX5_cliqueNumber wsX5_cliqueNumber) := goodIn_app (goodIn_of _ (by decide +kernel)) ggL_law_X5_cliqueNumber
set_option maxRecDepth 20000 in
theorem ggL_law_X6_cliqueNumber : GoodIn wsL_law wsX6_cliqueNumber := goodIn_r _ [731, 259, 263, 420, 421, 422, 5, 423, 424, 425, 426, 427, 428, 429, 430, 431, 432, 433, 434, 435, 436, 437, 438, 439, 440, 441, 442, 443, 444, 445, 446, 447, 448, 449, 450, 451, 452, 453, 454, 455, 456, 512, 513, 514, 789, 790, 791, 792, 793, 794, 795, 796, 797, 798] (by decide +kernel) (by decide +kernel)
set_option maxRecDepth 20000 in
theorem gL_law_X6_cliqueNumber : GoodIn wsL_law (wsV RL 117 RX6 yX6_cliqueNumber wsX6_cliqueNumber) := goodIn_app (goodIn_of _ (by decide +kernel)) ggL_law_X6_cliqueNumber
set_option maxRecDepth 20000 in
theorem ggL_law_X5_leastCast : GoodIn wsL_law wsX5_leastCast := goodIn_r _ [735, 28, 24, 527, 528, 529, 27, 530, 531, 532, 533, 63, 534, 396, 397, 23, 398, 59, 399, 58, 535, 536, 537, 538, 539, 540, 541, 542, 543, 252, 253, 254, 544, 545, 546, 547, 64, 548, 549, 550, 551, 552, 553, 554, 555, 556, 557, 783, 784, 785, 786, 787, 788, 818, 819, 806, 807, 808, 809, 810, 811, 812, 813, 814, 815, 816, 817, 820, 821, 822] (by decide +kernel) (by decide +kernel)
set_option maxRecDepth 20000 in
theorem gL_law_X5_leastCast : GoodIn wsL_law (wsV RL 118 RX5 yX5_leastCast wsX5_leastCast) := goodIn_app (goodIn_of _ (by decide +kernel)) ggL_law_X5_leastCast
set_option maxRecDepth 20000 in
theorem ggL_law_X6_leastCast : GoodIn wsL_law wsX6_leastCast := goodIn_r _ [739, 566, 567, 568, 5, 569, 420, 421, 422, 423, 259, 263, 424, 425, 426, 427, 428, 429, 430, 431, 432, 433, 434, 435, 436, 437, 438, 439, 440, 441, 442, 443, 444, 445, 446, 447, 448, 449, 450, 451, 452, 453, 454, 455, 456, 570, 571, 572, 573, 264, 574, 575, 576, 577, 789, 790, 791, 792, 793, 794, 795, 796, 797, 798] (by decide +kernel) (by decide +kernel)
set_option maxRecDepth 20000 in
theorem gL_law_X6_leastCast : GoodIn wsL_law (wsV RL 121 RX6 yX6_leastCast wsX6_leastCast) := goodIn_app (goodIn_of _ (by decide +kernel)) ggL_law_X6_leastCast
set_option maxRecDepth 20000 in
theorem ggL_law_X5_firstCastActor : GoodIn wsL_law wsX5_firstCastActor := goodIn_r _ [743, 20, 28, 24, 475, 203, 204, 18, 205, 141, 527, 528, 529, 27, 530, 531, 532, 533, 63, 534, 396, 397, 23, 398, 59, 399, 58, 535, 536, 537, 538, 539, 540, 541, 542, 543, 252, 253, 254, 544, 545, 546, 547, 64, 548, 549, 550, 551, 552, 553, 554, 555, 556, 557, 558, 559, 560, 561, 783, 784, 785, 786, 787, 788, 806, 807, 808, 809, 810, 811, 812, 813, 814, 815, 816, 817, 818, 819, 820, 821, 822] (by decide +kernel) (by decide +kernel)
set_option maxRecDepth 20000 in
theorem gL_law_X5_firstCastActor : GoodIn wsL_law (wsV RL 122 RX5 yX5_firstCastActor wsX5_firstCastActor) := goodIn_app (goodIn_of _ (by decide +kernel)) ggL_law_X5_firstCastActor
set_option maxRecDepth 20000 in
theorem ggL_law_X6_firstCastActor : GoodIn wsL_law wsX6_firstCastActor := goodIn_r _ [747, 264, 404, 405, 406, 5, 407, 259, 286, 287, 288, 566, 567, 568, 569, 420, 421, 422, 423, 263, 424, 425, 426, 427, 428, 429, 430, 431, 432, 433, 434, 435, 436, 437, 438, 439, 440, 441, 442, 443, 444, 445, 446, 447, 448, 449, 450, 451, 452, 453, 454, 455, 456, 570, 571, 572, 573, 574, 575, 576, 577, 789, 790, 791, 792, 793, 794, 795, 796, 797, 798] (by decide +kernel) (by decide +kernel)
set_option maxRecDepth 20000 in
theorem gL_law_X6_firstCastActor : GoodIn wsL_law (wsV RL 125 RX6 yX6_firstCastActor wsX6_firstCastActor) := goodIn_app (goodIn_of _ (by decide +kernel)) ggL_law_X6_firstCastActor
set_option maxRecDepth 20000 in
theorem ggL_law_X5_greedyCast : GoodIn wsL_law wsX5_greedyCast := goodIn_r _ [751, 28, 24, 527, 528, 529, 27, 530, 531, 532, 533, 63, 534, 396, 397, 23, 398, 59, 399, 58, 752, 753, 754, 755, 64, 551, 552, 253, 553, 544, 545, 546, 547, 554, 555, 556, 557, 783, 784, 785, 786, 787, 788, 818, 819, 806, 807, 808, 809, 810, 811, 812, 813, 814, 815, 816, 817, 820, 821, 822] (by decide +kernel) (by decide +kernel)
set_option maxRecDepth 20000 in
theorem gL_law_X5_greedyCast : GoodIn wsL_law (wsV RL 126 RX5 yX5_greedyCast wsX5_greedyCast) := goodIn_app (goodIn_of _ (by decide +kernel)) ggL_law_X5_greedyCast
set_option maxRecDepth 20000 in
theorem ggL_law_X6_greedyCast : GoodIn wsL_law wsX6_greedyCast := goodIn_r _ [759, 259, 264, 420, 421, 422, 5, 423, 263, 424, 425, 426, 427, 428, 429, 430, 431, 432, 433, 434, 435, 436, 437, 438, 439, 440, 441, 442, 443, 444, 445, 446, 447, 448, 449, 450, 451, 452, 453, 454, 455, 456, 574, 575, 576, 577, 789, 790, 791, 792, 793, 794, 795, 796, 797, 798] (by decide +kernel) (by decide +kernel)
set_option maxRecDepth 20000 in
theorem gL_law_X6_greedyCast : GoodIn wsL_law (wsV RL 129 RX6 yX6_greedyCast wsX6_greedyCast) := goodIn_app (goodIn_of _ (by decide +kernel)) ggL_law_X6_greedyCast
set_option maxRecDepth 20000 in
theorem ggL_law_X5_leastCastIfFaster : GoodIn wsL_law wsX5_leastCastIfFaster := goodIn_r _ [763, 28, 24, 527, 528, 529, 27, 530, 531, 532, 533, 63, 534, 396, 397, 23, 398, 59, 399, 58, 535, 536, 537, 538, 539, 540, 541, 542, 543, 252, 253, 254, 544, 545, 546, 547, 64, 548, 549, 550, 551, 552, 553, 554, 555, 556, 557, 783, 784, 785, 786, 787, 788, 818, 819, 806, 807, 808, 809, 810, 811, 812, 813, 814, 815, 816, 817, 820, 821, 822] (by decide +kernel) (by decide +kernel)
set_option maxRecDepth 20000 in
theorem gL_law_X5_leastCastIfFaster : GoodIn wsL_law (wsV RL 130 RX5 yX5_leastCastIfFaster wsX5_leastCastIfFaster) := goodIn_app (goodIn_of _ (by decide +kernel)) ggL_law_X5_leastCastIfFaster
set_option maxRecDepth 20000 in
theorem ggL_law_X6_leastCastIfFaster : GoodIn wsL_law wsX6_leastCastIfFaster := goodIn_r _ [767, 768, 286, 287, 5, 288, 566, 567, 568, 569, 420, 421, 422, 423, 259, 263, 424, 425, 426, 427, 428, 429, 430, 431, 432, 433, 434, 435, 436, 437, 438, 439, 440, 441, 442, 443, 444, 445, 446, 447, 448, 449, 450, 451, 452, 453, 454, 455, 456, 570, 571, 572, 573, 264, 574, 575, 576, 577, 789, 790, 791, 792, 793, 794, 795, 796, 797, 798] (by decide +kernel) (by decide +kernel)
set_option maxRecDepth 20000 in
theorem gL_law_X6_leastCastIfFaster : GoodIn wsL_law (wsV RL 133 RX6 yX6_leastCastIfFaster wsX6_leastCastIfFaster) := goodIn_app (goodIn_of _ (by decide +kernel)) ggL_law_X6_leastCastIfFaster
set_option maxRecDepth 20000 in
theorem ggL_law_X5_speedUpFor : GoodIn wsL_law wsX5_speedUpFor := goodIn_r _ [772, 773, 774, 775, 2, 776, 28, 24, 527, 528, 529, 27, 530, 531, 532, 533, 63, 534, 396, 397, 23, 398, 59, 399, 58, 777, 540, 541, 542, 543, 252, 253, 254, 544, 545, 546, 547, 64, 548, 549, 550, 551, 552, 553, 554, 555, 556, 557, 783, 784, 785, 786, 787, 788, 818, 819, 806, 807, 808, 809, 810, 811, 812, 813, 814, 815, 816, 817, 820, 821, 822] (by decide +kernel) (by decide +kernel)
set_option maxRecDepth 20000 in
theorem gL_law_X5_speedUpFor : GoodIn wsL_law (wsV RL 134 RX5 yX5_speedUpFor wsX5_speedUpFor) := goodIn_app (goodIn_of _ (by decide +kernel)) ggL_law_X5_speedUpFor
set_option maxRecDepth 20000 in
theorem ggL_law_X6_speedUpFor : GoodIn wsL_law wsX6_speedUpFor := goodIn_r _ [781, 782, 286, 287, 5, 288, 420, 421, 422, 423, 259, 263, 424, 425, 426, 427, 428, 429, 430, 431, 432, 433, 434, 435, 436, 437, 438, 439, 440, 441, 442, 443, 444, 445, 446, 447, 448, 449, 450, 451, 452, 453, 454, 455, 456, 570, 571, 572, 573, 264, 574, 575, 576, 577, 789, 790, 791, 792, 793, 794, 795, 796, 797, 798] (by decide +kernel) (by decide +kernel)
set_option maxRecDepth 20000 in
theorem gL_law_X6_speedUpFor : GoodIn wsL_law (wsV RL 137 RX6 yX6_speedUpFor wsX6_speedUpFor) := goodIn_app (goodIn_of _ (by decide +kernel)) ggL_law_X6_speedUpFor
