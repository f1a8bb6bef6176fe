set_option maxRecDepth 20000 in
theorem ggL_law_X4_init : GoodIn wsL_law wsX4_init := goodIn_r _ [8, 9, 10, 11, 12, 13, 14, 15, 16, 17, 18, 19, 20, 21, 22, 23, 24, 25, 26, 27, 28, 29, 30, 31, 32, 33, 34, 35, 36, 37, 38, 39, 40, 41, 42, 43, 44, 45, 46, 47, 48, 49, 50, 51, 52, 53, 54, 55, 56, 57, 58, 59, 60, 61, 62, 837, 838, 813, 814, 815, 816, 817, 818, 819, 839, 840, 841, 842, 843, 844, 845, 846, 847, 848, 849, 850, 851, 852, 853, 854, 855, 856, 857, 858, 859, 860, 861, 862, 863, 864, 865, 866, 867, 868] (by decide +kernel) (by decide +kernel)
set_option maxRecDepth 20000 in
theorem gL_law_X4_init : GoodIn wsL_law (wsX4_init) := ggL_law_X4_init
set_option maxRecDepth 20000 in
theorem ggL_law_X5_init : GoodIn wsL_law wsX5_init := goodIn_r _ [65, 66, 10, 11, 39, 67, 68, 69, 70, 71, 72, 73, 74, 75, 76, 77, 78, 820, 821, 822, 823, 824, 825, 826, 827, 828, 829, 830, 831, 832, 833, 834, 835, 836] (by decide +kernel) (by decide +kernel)
set_option maxRecDepth 20000 in
theorem gL_law_X5_init : GoodIn wsL_law (wsX5_init) := ggL_law_X5_init
set_option maxRecDepth 20000 in
theorem ggL_law_X4_appendCharacter : GoodIn wsL_law wsX4_appendCharacter := goodIn_r _ [82, 15, 83, 84, 85, 14, 86, 87, 40, 813, 814, 815, 816, 817, 818, 819, 837, 838] (by decide +kernel) (by decide +kernel)
set_option maxRecDepth 20000 in
theorem gL_law_X4_appendCharacter : GoodIn wsL_law (wsV RL 13 RX4 yX4_appendCharacter wsX4_appendCharacter) := goodIn_app (goodIn_of _ (by decide +kernel)) ggL_law_X4_appendCharacter
set_option maxRecDepth 20000 in
theorem ggL_law_X5_appendCharacter : GoodIn wsL_law wsX5_appendCharacter := goodIn_r _ [91, 92, 74, 93, 94, 5, 95, 820, 821, 822, 823, 824, 825, 826, 827, 828, 829, 830, 831, 832, 833, 834, 835, 836] (by decide +kernel) (by decide +kernel)
set_option maxRecDepth 20000 in
theorem gL_law_X5_appendCharacter : GoodIn wsL_law (wsV RL 17 RX5 yX5_appendCharacter wsX5_appendCharacter) := goodIn_app (goodIn_of _ (by decide +kernel)) ggL_law_X5_appendCharacter
set_option maxRecDepth 20000 in
theorem ggL_law_X4_clearClip : GoodIn wsL_law wsX4_clearClip := goodIn_r _ [99, 15, 100, 101, 102, 14, 103, 87, 813, 814, 815, 816, 817, 818, 819, 837, 838] (by decide +kernel) (by decide +kernel)
set_option maxRecDepth 20000 in
theorem gL_law_X4_clearClip : GoodIn wsL_law (wsV RL 18 RX4 yX4_clearClip wsX4_clearClip) := goodIn_app (goodIn_of _ (by decide +kernel)) ggL_law_X4_clearClip
set_option maxRecDepth 20000 in
theorem ggL_law_X5_clearClip : GoodIn wsL_law wsX5_clearClip := goodIn_r _ [107, 92, 820, 821, 822, 823, 824, 825, 826, 827, 828, 829, 830, 831, 832, 833, 834, 835, 836] (by decide +kernel) (by decide +kernel)
set_option maxRecDepth 20000 in
theorem gL_law_X5_clearClip : GoodIn wsL_law (wsV RL 22 RX5 yX5_clearClip wsX5_clearClip) := goodIn_app (goodIn_of _ (by decide +kernel)) ggL_law_X5_clearClip
set_option maxRecDepth 20000 in
theorem ggL_law_X4_begin : GoodIn wsL_law wsX4_begin := goodIn_r _ [111, 23, 15, 112, 113, 114, 22, 115, 116, 117, 37, 118, 119, 120, 121, 122, 123, 124, 125, 126, 14, 127, 87, 40, 128, 129, 130, 131, 50, 51, 52, 132, 133, 134, 135, 136, 53, 137, 138, 139, 140, 100, 101, 102, 103, 813, 814, 815, 816, 817, 818, 819, 846, 847, 848, 849, 850, 851, 852, 853, 854, 855, 856, 837, 838] (by decide +kernel) (by decide +kernel)
set_option maxRecDepth 20000 in
theorem gL_law_X4_begin : GoodIn wsL_law (wsV RL 23 RX4 yX4_begin wsX4_begin) := goodIn_app (goodIn_of _ (by decide +kernel)) ggL_law_X4_begin
set_option maxRecDepth 20000 in
theorem ggL_law_X5_begin : GoodIn wsL_law wsX5_begin := goodIn_r _ [144, 67, 92, 74, 820, 821, 822, 823, 824, 825, 826, 827, 828, 829, 830, 831, 832, 833, 834, 835, 836] (by decide +kernel) (by decide +kernel)
set_option maxRecDepth 20000 in
theorem gL_law_X5_begin : GoodIn wsL_law (wsV RL 26 RX5 yX5_begin wsX5_begin) := goodIn_app (goodIn_of _ (by decide +kernel)) ggL_law_X5_begin
set_option maxRecDepth 20000 in
theorem ggL_law_X4_insert : GoodIn wsL_law wsX4_insert := goodIn_r _ [148, 23, 15, 149, 150, 151, 22, 152, 136, 120, 119, 53, 54, 51, 153, 154, 155, 156, 157, 2, 158, 159, 160, 161, 162, 163, 164, 165, 166, 167, 168, 169, 170, 171, 172, 173, 174, 175, 176, 177, 50, 52, 124, 125, 126, 14, 127, 87, 40, 178, 179, 128, 129, 130, 131, 180, 181, 182, 183, 122, 132, 133, 134, 135, 123, 116, 117, 37, 118, 137, 138, 139, 140, 100, 101, 102, 103, 813, 814, 815, 816, 817, 818, 819, 837, 838, 846, 847, 848, 849, 850, 851, 852, 853, 854, 855, 856] (by decide +kernel) (by decide +kernel)
set_option maxRecDepth 20000 in
theorem gL_law_X4_insert : GoodIn wsL_law (wsV RL 27 RX4 yX4_insert wsX4_insert) := goodIn_app (goodIn_of _ (by decide +kernel)) ggL_law_X4_insert
set_option maxRecDepth 20000 in
theorem ggL_law_X5_insert : GoodIn wsL_law wsX5_insert := goodIn_r _ [187, 92, 74, 67, 188, 189, 190, 5, 191, 192, 193, 194, 195, 196, 197, 198, 199, 93, 94, 95, 200, 201, 202, 203, 204, 205, 206, 207, 208, 209, 210, 211, 212, 213, 214, 215, 820, 821, 822, 823, 824, 825, 826, 827, 828, 829, 830, 831, 832, 833, 834, 835, 836] (by decide +kernel) (by decide +kernel)
set_option maxRecDepth 20000 in
theorem gL_law_X5_insert : GoodIn wsL_law (wsV RL 30 RX5 yX5_insert wsX5_insert) := goodIn_app (goodIn_of _ (by decide +kernel)) ggL_law_X5_insert
set_option maxRecDepth 20000 in
theorem ggL_law_X4_erase : GoodIn wsL_law wsX4_erase := goodIn_r _ [219, 23, 220, 221, 222, 22, 223, 120, 54, 52, 53, 121, 224, 225, 226, 227, 136, 178, 2, 179, 228, 229, 230, 231, 51, 232, 233, 234, 235, 153, 154, 155, 156, 157, 158, 159, 160, 161, 162, 163, 164, 165, 166, 167, 168, 169, 170, 171, 172, 173, 180, 181, 182, 183, 122, 132, 133, 134, 135, 119, 123, 116, 117, 37, 118, 137, 138, 139, 140, 813, 814, 815, 816, 817, 818, 819, 846, 847, 848, 849, 850, 851, 852, 853, 854, 855, 856] (by decide +kernel) (by decide +kernel)
set_option maxRecDepth 20000 in
theorem gL_law_X4_erase : GoodIn wsL_law (wsV RL 31 RX4 yX4_erase wsX4_erase) := goodIn_app (goodIn_of _ (by decide +kernel)) ggL_law_X4_erase
set_option maxRecDepth 20000 in
theorem ggL_law_X5_erase : GoodIn wsL_law wsX5_erase := goodIn_r _ [239, 240, 241, 242, 5, 243, 67, 188, 189, 190, 191, 192, 193, 194, 195, 196, 197, 198, 199, 93, 94, 95, 244, 245, 246, 247, 820, 821, 822, 823, 824, 825, 826, 827, 828, 829, 830, 831, 832, 833, 834, 835, 836] (by decide +kernel) (by decide +kernel)
set_option maxRecDepth 20000 in
theorem gL_law_X5_erase : GoodIn wsL_law (wsV RL 35 RX5 yX5_erase wsX5_erase) := goodIn_app (goodIn_of _ (by decide +kernel)) ggL_law_X5_erase
set_option maxRecDepth 20000 in
theorem ggL_law_X4_setCursor : GoodIn wsL_law wsX4_setCursor := goodIn_r _ [251, 23, 813, 814, 815, 816, 817, 818, 819, 846, 847, 848, 849, 850, 851, 852, 853, 854, 855, 856] (by decide +kernel) (by decide +kernel)
set_option maxRecDepth 20000 in
theorem gL_law_X4_setCursor : GoodIn wsL_law (wsV RL 36 RX4 yX4_setCursor wsX4_setCursor) := goodIn_app (goodIn_of _ (by decide +kernel)) ggL_law_X4_setCursor
set_option maxRecDepth 20000 in
theorem ggL_law_X5_setCursor : GoodIn wsL_law wsX5_setCursor := goodIn_r _ [255, 67, 188, 189, 190, 5, 191, 192, 193, 194, 195, 196, 197, 198, 199, 93, 94, 95, 820, 821, 822, 823, 824, 825, 826, 827, 828, 829, 830, 831, 832, 833, 834, 835, 836] (by decide +kernel) (by decide +kernel)
set_option maxRecDepth 20000 in
theorem gL_law_X5_setCursor : GoodIn wsL_law (wsV RL 39 RX5 yX5_setCursor wsX5_setCursor) := goodIn_app (goodIn_of _ (by decide +kernel)) ggL_law_X5_setCursor
set_option maxRecDepth 20000 in
theorem ggL_law_X4_setPrices : GoodIn wsL_law wsX4_setPrices := goodIn_r _ [259, 29, 30, 813, 814, 815, 816, 817, 818, 819] (by decide +kernel) (by decide +kernel)
set_option maxRecDepth 20000 in
theorem gL_law_X4_setPrices : GoodIn wsL_law (wsV RL 40 RX4 yX4_setPrices wsX4_setPrices) := goodIn_app (goodIn_of _ (by decide +kernel)) ggL_law_X4_setPrices
set_option maxRecDepth 20000 in
theorem ggL_law_X5_setPrices : GoodIn wsL_law wsX5_setPrices := goodIn_r _ [263, 71, 72, 93, 94, 5, 95, 820, 821, 822, 823, 824, 825, 826, 827, 828, 829, 830, 831, 832, 833, 834, 835, 836] (by decide +kernel) (by decide +kernel)
set_option maxRecDepth 20000 in
theorem gL_law_X5_setPrices : GoodIn wsL_law (wsV RL 43 RX5 yX5_setPrices wsX5_setPrices) := goodIn_app (goodIn_of _ (by decide +kernel)) ggL_law_X5_setPrices
set_option maxRecDepth 20000 in
theorem ggL_law_X4_character : GoodIn wsL_law wsX4_character := goodIn_r _ [267, 23, 268, 233, 234, 22, 235, 136, 269, 270, 271, 272, 50, 53, 232, 813, 814, 815, 816, 817, 818, 819, 846, 847, 848, 849, 850, 851, 852, 853, 854, 855, 856] (by decide +kernel) (by decide +kernel)
set_option maxRecDepth 20000 in
theorem gL_law_X4_character : GoodIn wsL_law (wsV RL 44 RX4 yX4_character wsX4_character) := goodIn_app (goodIn_of _ (by decide +kernel)) ggL_law_X4_character
set_option maxRecDepth 20000 in
theorem ggL_law_X5_character : GoodIn wsL_law wsX5_character := goodIn_r _ [276, 67, 208, 209, 210, 5, 211, 196, 197, 198, 199, 820, 821, 822, 823, 824, 825, 826, 827, 828, 829, 830, 831, 832, 833, 834, 835, 836] (by decide +kernel) (by decide +kernel)
set_option maxRecDepth 20000 in
theorem gL_law_X5_character : GoodIn wsL_law (wsV RL 47 RX5 yX5_character wsX5_character) := goodIn_app (goodIn_of _ (by decide +kernel)) ggL_law_X5_character
set_option maxRecDepth 20000 in
theorem ggL_law_X4_author : GoodIn wsL_law wsX4_author := goodIn_r _ [280, 23, 268, 233, 234, 22, 235, 136, 281, 229, 230, 231, 51, 53, 232, 282, 157, 2, 158, 159, 160, 161, 162, 163, 164, 165, 813, 814, 815, 816, 817, 818, 819, 846, 847, 848, 849, 850, 851, 852, 853, 854, 855, 856] (by decide +kernel) (by decide +kernel)
set_option maxRecDepth 20000 in
theorem gL_law_X4_author : GoodIn wsL_law (wsV RL 48 RX4 yX4_author wsX4_author) := goodIn_app (goodIn_of _ (by decide +kernel)) ggL_law_X4_author
set_option maxRecDepth 20000 in
theorem ggL_law_X5_author : GoodIn wsL_law wsX5_author := goodIn_r _ [286, 67, 188, 189, 190, 5, 191, 192, 193, 194, 195, 196, 197, 198, 199, 93, 94, 95, 208, 209, 210, 211, 820, 821, 822, 823, 824, 825, 826, 827, 828, 829, 830, 831, 832, 833, 834, 835, 836] (by decide +kernel) (by decide +kernel)
set_option maxRecDepth 20000 in
theorem gL_law_X5_author : GoodIn wsL_law (wsV RL 51 RX5 yX5_author wsX5_author) := goodIn_app (goodIn_of _ (by decide +kernel)) ggL_law_X5_author
set_option maxRecDepth 20000 in
theorem ggL_law_X4_count : GoodIn wsL_law wsX4_count := goodIn_r _ [290, 23, 15, 159, 160, 161, 162, 163, 164, 165, 291, 292, 293, 22, 294, 120, 295, 296, 297, 298, 166, 167, 168, 169, 54, 170, 171, 172, 173, 299, 2, 300, 813, 814, 815, 816, 817, 818, 819, 846, 847, 848, 849, 850, 851, 852, 853, 854, 855, 856, 837, 838] (by decide +kernel) (by decide +kernel)
set_option maxRecDepth 20000 in
theorem gL_law_X4_count : GoodIn wsL_law (wsV RL 52 RX4 yX4_count wsX4_count) := goodIn_app (goodIn_of _ (by decide +kernel)) ggL_law_X4_count
set_option maxRecDepth 20000 in
theorem ggL_law_X5_count : GoodIn wsL_law wsX5_count := goodIn_r _ [304, 67, 92, 188, 189, 190, 5, 191, 192, 193, 194, 195, 196, 197, 198, 199, 305, 306, 307, 308, 309, 310, 311, 76, 312, 313, 314, 315, 820, 821, 822, 823, 824, 825, 826, 827, 828, 829, 830, 831, 832, 833, 834, 835, 836] (by decide +kernel) (by decide +kernel)
set_option maxRecDepth 20000 in
theorem gL_law_X5_count : GoodIn wsL_law (wsV RL 55 RX5 yX5_count wsX5_count) := goodIn_app (goodIn_of _ (by decide +kernel)) ggL_law_X5_count
set_option maxRecDepth 20000 in
theorem ggL_law_X4_edit : GoodIn wsL_law wsX4_edit := goodIn_r _ [319, 23, 29, 30, 320, 171, 172, 22, 173, 120, 321, 299, 2, 300, 322, 323, 324, 325, 119, 326, 327, 328, 329, 51, 52, 330, 331, 332, 333, 122, 334, 335, 336, 337, 137, 138, 139, 140, 338, 339, 340, 341, 123, 342, 343, 37, 344, 345, 160, 161, 162, 163, 164, 165, 346, 347, 167, 168, 169, 54, 170, 348, 178, 179, 349, 350, 351, 352, 813, 814, 815, 816, 817, 818, 819, 846, 847, 848, 849, 850, 851, 852, 853, 854, 855, 856] (by decide +kernel) (by decide +kernel)
set_option maxRecDepth 20000 in
theorem gL_law_X4_edit : GoodIn wsL_law (wsV RL 56 RX4 yX4_edit wsX4_edit) := goodIn_app (goodIn_of _ (by decide +kernel)) ggL_law_X4_edit
set_option maxRecDepth 20000 in
theorem ggL_law_X5_edit : GoodIn wsL_law wsX5_edit := goodIn_r _ [356, 67, 76, 357, 358, 359, 5, 360, 93, 94, 95, 308, 309, 310, 311, 361, 362, 363, 364, 365, 366, 367, 368, 369, 370, 371, 372, 373, 374, 375, 376, 196, 197, 198, 199, 377, 378, 379, 380, 71, 72, 305, 306, 307, 381, 382, 383, 384, 820, 821, 822, 823, 824, 825, 826, 827, 828, 829, 830, 831, 832, 833, 834, 835, 836] (by decide +kernel) (by decide +kernel)
set_option maxRecDepth 20000 in
theorem gL_law_X5_edit : GoodIn wsL_law (wsV RL 59 RX5 yX5_edit wsX5_edit) := goodIn_app (goodIn_of _ (by decide +kernel)) ggL_law_X5_edit
set_option maxRecDepth 20000 in
theorem ggL_law_X4_commute : GoodIn wsL_law wsX4_commute := goodIn_r _ [388, 23, 320, 171, 172, 22, 173, 120, 389, 296, 297, 298, 166, 167, 168, 169, 54, 170, 299, 2, 300, 813, 814, 815, 816, 817, 818, 819, 846, 847, 848, 849, 850, 851, 852, 853, 854, 855, 856] (by decide +kernel) (by decide +kernel)
set_option maxRecDepth 20000 in
theorem gL_law_X4_commute : GoodIn wsL_law (wsV RL 60 RX4 yX4_commute wsX4_commute) := goodIn_app (goodIn_of _ (by decide +kernel)) ggL_law_X4_commute
set_option maxRecDepth 20000 in
theorem ggL_law_X5_commute : GoodIn wsL_law wsX5_commute := goodIn_r _ [393, 357, 358, 359, 5, 360, 67, 93, 94, 95, 308, 309, 310, 311, 76, 312, 313, 314, 315, 820, 821, 822, 823, 824, 825, 826, 827, 828, 829, 830, 831, 832, 833, 834, 835, 836] (by decide +kernel) (by decide +kernel)
set_option maxRecDepth 20000 in
theorem gL_law_X5_commute : GoodIn wsL_law (wsV RL 63 RX5 yX5_commute wsX5_commute) := goodIn_app (goodIn_of _ (by decide +kernel)) ggL_law_X5_commute
set_option maxRecDepth 20000 in
theorem ggL_law_X4_closure : GoodIn wsL_law wsX4_closure := goodIn_r _ [397, 23, 320, 171, 172, 22, 173, 120, 321, 299, 2, 300, 348, 178, 179, 398, 399, 400, 401, 122, 402, 350, 351, 352, 54, 813, 814, 815, 816, 817, 818, 819, 846, 847, 848, 849, 850, 851, 852, 853, 854, 855, 856] (by decide +kernel) (by decide +kernel)
set_option maxRecDepth 20000 in
theorem gL_law_X4_closure : GoodIn wsL_law (wsV RL 64 RX4 yX4_closure wsX4_closure) := goodIn_app (goodIn_of _ (by decide +kernel)) ggL_law_X4_closure
set_option maxRecDepth 20000 in
theorem ggL_law_X5_closure : GoodIn wsL_law wsX5_closure := goodIn_r _ [406, 357, 358, 359, 5, 360, 67, 93, 94, 95, 308, 309, 310, 311, 76, 361, 362, 363, 364, 407, 408, 409, 410, 381, 382, 383, 384, 820, 821, 822, 823, 824, 825, 826, 827, 828, 829, 830, 831, 832, 833, 834, 835, 836] (by decide +kernel) (by decide +kernel)
set_option maxRecDepth 20000 in
theorem gL_law_X5_closure : GoodIn wsL_law (wsV RL 67 RX5 yX5_closure wsX5_closure) := goodIn_app (goodIn_of _ (by decide +kernel)) ggL_law_X5_closure
set_option maxRecDepth 20000 in
theorem ggL_law_X4_price : GoodIn wsL_law wsX4_price := goodIn_r _ [414, 23, 29, 30, 415, 416, 417, 2, 418, 419, 420, 421, 22, 422, 120, 423, 424, 425, 426, 122, 402, 350, 351, 352, 54, 178, 179, 427, 428, 429, 430, 299, 300, 431, 339, 340, 341, 123, 342, 343, 37, 344, 345, 160, 161, 162, 163, 164, 165, 346, 331, 332, 333, 119, 326, 327, 328, 329, 51, 52, 334, 335, 336, 337, 137, 138, 139, 140, 813, 814, 815, 816, 817, 818, 819, 846, 847, 848, 849, 850, 851, 852, 853, 854, 855, 856] (by decide +kernel) (by decide +kernel)
set_option maxRecDepth 20000 in
theorem gL_law_X4_price : GoodIn wsL_law (wsV RL 68 RX4 yX4_price wsX4_price) := goodIn_app (goodIn_of _ (by decide +kernel)) ggL_law_X4_price
set_option maxRecDepth 20000 in
theorem ggL_law_X5_price : GoodIn wsL_law wsX5_price := goodIn_r _ [435, 436, 437, 438, 5, 439, 67, 308, 309, 310, 311, 76, 440, 441, 442, 443, 444, 445, 446, 447, 361, 362, 363, 364, 448, 449, 450, 451, 377, 378, 379, 380, 71, 72, 369, 370, 371, 372, 373, 374, 375, 376, 196, 197, 198, 199, 305, 306, 307, 820, 821, 822, 823, 824, 825, 826, 827, 828, 829, 830, 831, 832, 833, 834, 835, 836] (by decide +kernel) (by decide +kernel)
set_option maxRecDepth 20000 in
theorem gL_law_X5_price : GoodIn wsL_law (wsV RL 71 RX5 yX5_price wsX5_price) := goodIn_app (goodIn_of _ (by decide +kernel)) ggL_law_X5_price
set_option maxRecDepth 20000 in
theorem ggL_law_X4_takeBack : GoodIn wsL_law wsX4_takeBack := goodIn_r _ [455, 23, 415, 416, 417, 2, 418, 419, 420, 421, 22, 422, 120, 423, 424, 425, 426, 122, 402, 350, 351, 352, 54, 178, 179, 456, 457, 458, 459, 119, 136, 334, 335, 336, 337, 137, 138, 139, 140, 51, 52, 132, 133, 134, 135, 53, 123, 116, 117, 37, 118, 813, 814, 815, 816, 817, 818, 819, 846, 847, 848, 849, 850, 851, 852, 853, 854, 855, 856] (by decide +kernel) (by decide +kernel)
set_option maxRecDepth 20000 in
theorem gL_law_X4_takeBack : GoodIn wsL_law (wsV RL 72 RX4 yX4_takeBack wsX4_takeBack) := goodIn_app (goodIn_of _ (by decide +kernel)) ggL_law_X4_takeBack
set_option maxRecDepth 20000 in
theorem ggL_law_X5_takeBack : GoodIn wsL_law wsX5_takeBack := goodIn_r _ [463, 436, 437, 438, 5, 439, 67, 308, 309, 310, 311, 76, 440, 441, 442, 443, 444, 445, 446, 447, 361, 362, 363, 364, 464, 465, 466, 467, 192, 193, 194, 195, 196, 197, 198, 199, 244, 245, 246, 247, 188, 189, 190, 191, 820, 821, 822, 823, 824, 825, 826, 827, 828, 829, 830, 831, 832, 833, 834, 835, 836] (by decide +kernel) (by decide +kernel)
set_option maxRecDepth 20000 in
theorem gL_law_X5_takeBack : GoodIn wsL_law (wsV RL 75 RX5 yX5_takeBack wsX5_takeBack) := goodIn_app (goodIn_of _ (by decide +kernel)) ggL_law_X5_takeBack
set_option maxRecDepth 20000 in
theorem ggL_law_X4_bringBack : GoodIn wsL_law wsX4_bringBack := goodIn_r _ [471, 23, 419, 420, 421, 22, 422, 120, 472, 473, 474, 475, 54, 122, 299, 2, 300, 456, 457, 458, 459, 119, 136, 334, 335, 336, 337, 137, 138, 139, 140, 51, 52, 132, 133, 134, 135, 53, 123, 116, 117, 37, 118, 813, 814, 815, 816, 817, 818, 819, 846, 847, 848, 849, 850, 851, 852, 853, 854, 855, 856] (by decide +kernel) (by decide +kernel)
set_option maxRecDepth 20000 in
theorem gL_law_X4_bringBack : GoodIn wsL_law (wsV RL 76 RX4 yX4_bringBack wsX4_bringBack) := goodIn_app (goodIn_of _ (by decide +kernel)) ggL_law_X4_bringBack
set_option maxRecDepth 20000 in
theorem ggL_law_X5_bringBack : GoodIn wsL_law wsX5_bringBack := goodIn_r _ [479, 67, 440, 441, 442, 5, 443, 308, 309, 310, 311, 76, 480, 481, 482, 483, 484, 485, 486, 487, 192, 193, 194, 195, 196, 197, 198, 199, 244, 245, 246, 247, 188, 189, 190, 191, 820, 821, 822, 823, 824, 825, 826, 827, 828, 829, 830, 831, 832, 833, 834, 835, 836] (by decide +kernel) (by decide +kernel)
set_option maxRecDepth 20000 in
theorem gL_law_X5_bringBack : GoodIn wsL_law (wsV RL 79 RX5 yX5_bringBack wsX5_bringBack) := goodIn_app (goodIn_of _ (by decide +kernel)) ggL_law_X5_bringBack
set_option maxRecDepth 20000 in
theorem ggL_law_X4_carried : GoodIn wsL_law wsX4_carried := goodIn_r _ [491, 23, 268, 233, 234, 22, 235, 136, 415, 416, 417, 2, 418, 419, 420, 421, 422, 120, 423, 424, 425, 426, 122, 402, 350, 351, 352, 54, 178, 179, 492, 493, 494, 495, 53, 232, 137, 138, 139, 140, 51, 52, 334, 335, 336, 337, 119, 813, 814, 815, 816, 817, 818, 819, 846, 847, 848, 849, 850, 851, 852, 853, 854, 855, 856] (by decide +kernel) (by decide +kernel)
set_option maxRecDepth 20000 in
theorem gL_law_X4_carried : GoodIn wsL_law (wsV RL 80 RX4 yX4_carried wsX4_carried) := goodIn_app (goodIn_of _ (by decide +kernel)) ggL_law_X4_carried
set_option maxRecDepth 20000 in
theorem ggL_law_X5_carried : GoodIn wsL_law wsX5_carried := goodIn_r _ [499, 67, 436, 437, 438, 5, 439, 308, 309, 310, 311, 76, 440, 441, 442, 443, 444, 445, 446, 447, 361, 362, 363, 364, 188, 189, 190, 191, 192, 193, 194, 195, 196, 197, 198, 199, 93, 94, 95, 208, 209, 210, 211, 373, 374, 375, 376, 820, 821, 822, 823, 824, 825, 826, 827, 828, 829, 830, 831, 832, 833, 834, 835, 836] (by decide +kernel) (by decide +kernel)
set_option maxRecDepth 20000 in
theorem gL_law_X5_carried : GoodIn wsL_law (wsV RL 83 RX5 yX5_carried wsX5_carried) := goodIn_app (goodIn_of _ (by decide +kernel)) ggL_law_X5_carried
set_option maxRecDepth 20000 in
theorem ggL_law_X4_loose : GoodIn wsL_law wsX4_loose := goodIn_r _ [503, 23, 504, 505, 506, 22, 507, 120, 178, 2, 179, 508, 424, 425, 426, 122, 402, 350, 351, 352, 54, 813, 814, 815, 816, 817, 818, 819, 846, 847, 848, 849, 850, 851, 852, 853, 854, 855, 856] (by decide +kernel) (by decide +kernel)
set_option maxRecDepth 20000 in
theorem gL_law_X4_loose : GoodIn wsL_law (wsV RL 84 RX4 yX4_loose wsX4_loose) := goodIn_app (goodIn_of _ (by decide +kernel)) ggL_law_X4_loose
set_option maxRecDepth 20000 in
theorem ggL_law_X5_loose : GoodIn wsL_law wsX5_loose := goodIn_r _ [512, 67, 308, 309, 310, 5, 311, 76, 361, 362, 363, 364, 407, 408, 409, 410, 381, 382, 383, 384, 820, 821, 822, 823, 824, 825, 826, 827, 828, 829, 830, 831, 832, 833, 834, 835, 836] (by decide +kernel) (by decide +kernel)
set_option maxRecDepth 20000 in
theorem gL_law_X5_loose : GoodIn wsL_law (wsV RL 87 RX5 yX5_loose wsX5_loose) := goodIn_app (goodIn_of _ (by decide +kernel)) ggL_law_X5_loose
set_option maxRecDepth 20000 in
theorem ggL_law_X4_opening : GoodIn wsL_law wsX4_opening := goodIn_r _ [516, 23, 320, 171, 172, 22, 173, 120, 321, 299, 2, 300, 348, 178, 179, 347, 167, 168, 169, 54, 170, 813, 814, 815, 816, 817, 818, 819, 846, 847, 848, 849, 850, 851, 852, 853, 854, 855, 856] (by decide +kernel) (by decide +kernel)
set_option maxRecDepth 20000 in
theorem gL_law_X4_opening : GoodIn wsL_law (wsV RL 88 RX4 yX4_opening wsX4_opening) := goodIn_app (goodIn_of _ (by decide +kernel)) ggL_law_X4_opening
set_option maxRecDepth 20000 in
theorem ggL_law_X5_opening : GoodIn wsL_law wsX5_opening := goodIn_r _ [520, 357, 358, 359, 5, 360, 67, 93, 94, 95, 308, 309, 310, 311, 76, 361, 362, 363, 364, 521, 522, 523, 524, 820, 821, 822, 823, 824, 825, 826, 827, 828, 829, 830, 831, 832, 833, 834, 835, 836] (by decide +kernel) (by decide +kernel)
set_option maxRecDepth 20000 in
theorem gL_law_X5_opening : GoodIn wsL_law (wsV RL 91 RX5 yX5_opening wsX5_opening) := goodIn_app (goodIn_of _ (by decide +kernel)) ggL_law_X5_opening
set_option maxRecDepth 20000 in
theorem ggL_law_X4_run : GoodIn wsL_law wsX4_run := goodIn_r _ [528, 23, 320, 171, 172, 22, 173, 120, 348, 178, 2, 179, 529, 530, 531, 532, 136, 533, 36, 37, 38, 534, 535, 536, 537, 228, 229, 230, 231, 51, 53, 232, 233, 234, 235, 538, 813, 814, 815, 816, 817, 818, 819, 846, 847, 848, 849, 850, 851, 852, 853, 854, 855, 856] (by decide +kernel) (by decide +kernel)
set_option maxRecDepth 20000 in
theorem gL_law_X4_run : GoodIn wsL_law (wsV RL 92 RX4 yX4_run wsX4_run) := goodIn_app (goodIn_of _ (by decide +kernel)) ggL_law_X4_run
set_option maxRecDepth 20000 in
theorem ggL_law_X5_run : GoodIn wsL_law wsX5_run := goodIn_r _ [542, 67, 357, 358, 359, 5, 360, 93, 94, 95, 196, 197, 198, 199, 820, 821, 822, 823, 824, 825, 826, 827, 828, 829, 830, 831, 832, 833, 834, 835, 836] (by decide +kernel) (by decide +kernel)
set_option maxRecDepth 20000 in
theorem gL_law_X5_run : GoodIn wsL_law (wsV RL 95 RX5 yX5_run wsX5_run) := goodIn_app (goodIn_of _ (by decide +kernel)) ggL_law_X5_run
set_option maxRecDepth 20000 in
theorem ggL_law_X4_appendScript : GoodIn wsL_law wsX4_appendScript := goodIn_r _ [546, 19, 83, 84, 85, 14, 86, 87, 40, 813, 814, 815, 816, 817, 818, 819, 839, 840, 841, 842, 843, 844, 845, 837, 838] (by decide +kernel) (by decide +kernel)
set_option maxRecDepth 20000 in
theorem gL_law_X4_appendScript : GoodIn wsL_law (wsV RL 96 RX4 yX4_appendScript wsX4_appendScript) := goodIn_app (goodIn_of _ (by decide +kernel)) ggL_law_X4_appendScript
set_option maxRecDepth 20000 in
theorem ggL_law_X5_appendScript : GoodIn wsL_law wsX5_appendScript := goodIn_r _ [550, 551, 75, 93, 94, 5, 95, 820, 821, 822, 823, 824, 825, 826, 827, 828, 829, 830, 831, 832, 833, 834, 835, 836] (by decide +kernel) (by decide +kernel)
set_option maxRecDepth 20000 in
theorem gL_law_X5_appendScript : GoodIn wsL_law (wsV RL 99 RX5 yX5_appendScript wsX5_appendScript) := goodIn_app (goodIn_of _ (by decide +kernel)) ggL_law_X5_appendScript
set_option maxRecDepth 20000 in
theorem ggL_law_X4_clearScript : GoodIn wsL_law wsX4_clearScript := goodIn_r _ [555, 19, 100, 101, 102, 14, 103, 87, 813, 814, 815, 816, 817, 818, 819, 839, 840, 841, 842, 843, 844, 845, 837, 838] (by decide +kernel) (by decide +kernel)
set_option maxRecDepth 20000 in
theorem gL_law_X4_clearScript : GoodIn wsL_law (wsV RL 100 RX4 yX4_clearScript wsX4_clearScript) := goodIn_app (goodIn_of _ (by decide +kernel)) ggL_law_X4_clearScript
set_option maxRecDepth 20000 in
theorem ggL_law_X5_clearScript : GoodIn wsL_law wsX5_clearScript := goodIn_r _ [559, 551, 820, 821, 822, 823, 824, 825, 826, 827, 828, 829, 830, 831, 832, 833, 834, 835, 836] (by decide +kernel) (by decide +kernel)
set_option maxRecDepth 20000 in
theorem gL_law_X5_clearScript : GoodIn wsL_law (wsV RL 103 RX5 yX5_clearScript wsX5_clearScript) := goodIn_app (goodIn_of _ (by decide +kernel)) ggL_law_X5_clearScript
set_option maxRecDepth 20000 in
theorem ggL_law_X4_runScript : GoodIn wsL_law wsX4_runScript := goodIn_r _ [563, 19, 564, 565, 566, 18, 567, 568, 569, 570, 571, 572, 573, 574, 575, 576, 45, 577, 125, 126, 14, 127, 87, 40, 578, 579, 580, 581, 582, 583, 584, 585, 586, 587, 588, 589, 590, 591, 592, 593, 594, 595, 596, 597, 598, 599, 600, 601, 602, 603, 604, 605, 606, 607, 608, 609, 610, 611, 612, 613, 614, 615, 616, 617, 2, 618, 23, 149, 150, 151, 22, 152, 136, 120, 119, 53, 54, 51, 153, 154, 155, 156, 157, 158, 159, 160, 161, 162, 163, 164, 165, 166, 167, 168, 169, 170, 171, 172, 173, 174, 175, 176, 177, 50, 52, 124, 178, 179, 128, 129, 130, 131, 180, 181, 182, 183, 122, 132, 133, 134, 135, 123, 116, 117, 37, 118, 137, 138, 139, 140, 619, 217, 218, 219, 220, 221, 222, 223, 121, 224, 225, 226, 227, 228, 229, 230, 231, 232, 233, 234, 235, 620, 395, 396, 397, 320, 321, 299, 300, 348, 398, 399, 400, 401, 402, 350, 351, 352, 621, 453, 454, 455, 415, 416, 417, 418, 419, 420, 421, 422, 423, 424, 425, 426, 456, 457, 458, 459, 334, 335, 336, 337, 622, 514, 515, 516, 347, 623, 469, 470, 471, 472, 473, 474, 475, 624, 249, 250, 251, 100, 101, 102, 103, 813, 814, 815, 816, 817, 818, 819, 839, 840, 841, 842, 843, 844, 845, 837, 838, 846, 847, 848, 849, 850, 851, 852, 853, 854, 855, 856] (by decide +kernel) (by decide +kernel)
set_option maxRecDepth 20000 in
theorem gL_law_X4_runScript : GoodIn wsL_law (wsV RL 104 RX4 yX4_runScript wsX4_runScript) := goodIn_app (goodIn_of _ (by decide +kernel)) ggL_law_X4_runScript
set_option maxRecDepth 20000 in
theorem ggL_law_X5_runScript : GoodIn wsL_law wsX5_runScript := goodIn_r _ [628, 629, 551, 630, 631, 632, 5, 633, 634, 635, 636, 637, 638, 639, 640, 641, 75, 642, 643, 644, 645, 646, 647, 648, 649, 650, 651, 652, 93, 94, 95, 653, 654, 655, 656, 657, 658, 659, 660, 67, 188, 189, 190, 191, 192, 193, 194, 195, 196, 197, 198, 199, 200, 201, 202, 203, 204, 205, 206, 207, 208, 209, 210, 211, 212, 213, 214, 215, 240, 241, 242, 243, 244, 245, 246, 247, 357, 358, 359, 360, 361, 362, 363, 364, 308, 309, 310, 311, 76, 407, 408, 409, 410, 381, 382, 383, 384, 464, 465, 466, 467, 521, 522, 523, 524, 484, 485, 486, 487, 820, 821, 822, 823, 824, 825, 826, 827, 828, 829, 830, 831, 832, 833, 834, 835, 836] (by decide +kernel) (by decide +kernel)
set_option maxRecDepth 20000 in
theorem gL_law_X5_runScript : GoodIn wsL_law (wsV RL 107 RX5 yX5_runScript wsX5_runScript) := goodIn_app (goodIn_of _ (by decide +kernel)) ggL_law_X5_runScript
set_option maxRecDepth 20000 in
theorem ggL_law_X4_cheapest : GoodIn wsL_law wsX4_cheapest := goodIn_r _ [664, 27, 665, 666, 667, 2, 668, 23, 29, 30, 159, 160, 161, 162, 163, 164, 165, 669, 670, 671, 26, 672, 673, 674, 675, 676, 677, 678, 679, 680, 62, 681, 299, 300, 682, 339, 340, 22, 341, 122, 123, 342, 343, 37, 344, 345, 346, 331, 332, 333, 119, 326, 327, 328, 329, 51, 52, 334, 335, 336, 337, 137, 138, 139, 140, 683, 684, 685, 686, 687, 688, 689, 690, 58, 59, 60, 61, 691, 692, 693, 694, 695, 696, 697, 698, 699, 700, 701, 702, 703, 704, 705, 706, 424, 425, 426, 402, 350, 351, 352, 120, 54, 178, 179, 707, 708, 709, 710, 711, 712, 713, 714, 715, 716, 717, 718, 719, 720, 721, 722, 723, 724, 725, 726, 117, 118, 813, 814, 815, 816, 817, 818, 819, 857, 858, 859, 860, 861, 862, 863, 864, 865, 866, 867, 868, 846, 847, 848, 849, 850, 851, 852, 853, 854, 855, 856] (by decide +kernel) (by decide +kernel)
set_option maxRecDepth 20000 in
theorem gL_law_X4_cheapest : GoodIn wsL_law (wsV RL 108 RX4 yX4_cheapest wsX4_cheapest) := goodIn_app (goodIn_of _ (by decide +kernel)) ggL_law_X4_cheapest
set_option maxRecDepth 20000 in
theorem ggL_law_X5_cheapest : GoodIn wsL_law wsX5_cheapest := goodIn_r _ [730, 731, 732, 733, 5, 734, 67, 93, 94, 95, 305, 306, 307, 735, 736, 737, 738, 77, 739, 308, 309, 310, 311, 76, 361, 362, 363, 364, 377, 378, 379, 380, 71, 72, 369, 370, 371, 372, 373, 374, 375, 376, 196, 197, 198, 199, 444, 445, 446, 447, 740, 741, 742, 743, 192, 193, 194, 195, 820, 821, 822, 823, 824, 825, 826, 827, 828, 829, 830, 831, 832, 833, 834, 835, 836] (by decide +kernel) (by decide +kernel)
set_option maxRecDepth 20000 in
theorem gL_law_X5_cheapest : GoodIn wsL_law (wsV RL 111 RX5 yX5_cheapest wsX5_cheapest) := goodIn_app (goodIn_of _ (by decide +kernel)) ggL_law_X5_cheapest
