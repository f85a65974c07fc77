set_option maxRecDepth 20000 in
theorem ggX7_isNoWish_X7_isThrown : GoodIn wsX7_isNoWish wsX7_isThrown := goodIn_r _ [43, 44, 45, 46, 47, 48, 49, 50, 51, 52, 53, 54, 55, 56, 57, 58, 59, 60, 61, 62, 63, 64, 65, 66, 67, 68] (by decide +kernel) (by decide +kernel)
set_option maxRecDepth 20000 in
theorem gX7_isNoWish_X7_isThrown : GoodIn wsX7_isNoWish (wsV RX7 97 RX7 yX7_isThrown wsX7_isThrown) := goodIn_app (goodIn_of _ (by decide +kernel)) ggX7_isNoWish_X7_isThrown
set_option maxRecDepth 20000 in
theorem ggX7_fewest_X7_isNone : GoodIn wsX7_fewest wsX7_isNone := goodIn_r _ [5, 6, 7, 8, 4, 9, 53, 54, 55, 56, 57, 58, 59, 60, 61, 62, 63, 64, 65, 66, 67, 68, 69, 70, 71, 72, 73, 74, 75, 76] (by decide +kernel) (by decide +kernel)
set_option maxRecDepth 20000 in
theorem gX7_fewest_X7_isNone : GoodIn wsX7_fewest (wsV RX7 94 RX7 yX7_isNone wsX7_isNone) := goodIn_app (goodIn_of _ (by decide +kernel)) ggX7_fewest_X7_isNone
set_option maxRecDepth 20000 in
theorem ggX7_fewest_X7_isThrown : GoodIn wsX7_fewest wsX7_isThrown := goodIn_r _ [13, 14, 53, 54, 55, 56, 57, 58, 59, 60, 61, 62, 63, 64, 65, 66, 67, 68, 69, 70, 71, 72, 73, 74, 75, 76] (by decide +kernel) (by decide +kernel)
set_option maxRecDepth 20000 in
theorem gX7_fewest_X7_isThrown : GoodIn wsX7_fewest (wsV RX7 97 RX7 yX7_isThrown wsX7_isThrown) := goodIn_app (goodIn_of _ (by decide +kernel)) ggX7_fewest_X7_isThrown
set_option maxRecDepth 20000 in
theorem ggX7_fewest_X7_isNoWish : GoodIn wsX7_fewest wsX7_isNoWish := goodIn_r _ [18, 19, 20, 21, 4, 22, 6, 23, 24, 25, 26, 27, 28, 29, 30, 31, 32, 33, 34, 35, 36, 37, 7, 8, 9, 38, 39, 40, 41, 42, 43, 44, 45, 46, 47, 48, 49, 50, 51, 52, 10, 11, 12, 13, 14, 53, 54, 55, 56, 57, 58, 59, 60, 61, 62, 63, 64, 65, 66, 67, 68, 69, 70, 71, 72, 73, 74, 75, 76] (by decide +kernel) (by decide +kernel)
set_option maxRecDepth 20000 in
theorem gX7_fewest_X7_isNoWish : GoodIn wsX7_fewest (wsV RX7 186 RX7 yX7_isNoWish wsX7_isNoWish) := goodIn_app (goodIn_of _ (by decide +kernel)) ggX7_fewest_X7_isNoWish
set_option maxRecDepth 20000 in
theorem ggX7_fewest_X7_wrong : GoodIn wsX7_fewest wsX7_wrong := goodIn_r _ [22, 6, 23, 24, 25, 26, 4, 27, 28, 29, 30, 31, 32, 33, 34, 35, 36, 37, 7, 8, 9, 38, 39, 40, 41, 42, 43, 44, 45, 46, 47, 48, 49, 50, 51, 52, 53, 54, 55, 56, 57, 58, 59, 60, 61, 62, 63, 64, 65, 66, 67, 68, 69, 70, 71, 72, 73, 74, 75, 76] (by decide +kernel) (by decide +kernel)
set_option maxRecDepth 20000 in
theorem gX7_fewest_X7_wrong : GoodIn wsX7_fewest (wsV RX7 183 RX7 yX7_wrong wsX7_wrong) := goodIn_app (goodIn_of _ (by decide +kernel)) ggX7_fewest_X7_wrong
set_option maxRecDepth 20000 in
theorem ggX7_fewest_J6_bitCount_0f7a4 : GoodIn wsX7_fewest wsJ6_bitCount_0f7a4 := goodIn_r _ [49, 50, 51, 52] (by decide +kernel) (by decide +kernel)
set_option maxRecDepth 20000 in
theorem gX7_fewest_J6_bitCount_0f7a4 : GoodIn wsX7_fewest (va_wsS RX7 120 yJ6_bitCount_0f7a4 wsJ6_bitCount_0f7a4) := goodIn_app (goodIn_of _ (by decide +kernel)) ggX7_fewest_J6_bitCount_0f7a4
set_option maxRecDepth 20000 in
theorem ggX7_toRetract_X7_isNone : GoodIn wsX7_toRetract wsX7_isNone := goodIn_r _ [5, 6, 7, 8, 4, 9, 53, 54, 55, 56, 57, 58, 59, 60, 61, 62, 63, 64, 65, 66, 67, 68, 69, 70, 71, 72, 73, 74, 75, 76] (by decide +kernel) (by decide +kernel)
set_option maxRecDepth 20000 in
theorem gX7_toRetract_X7_isNone : GoodIn wsX7_toRetract (wsV RX7 94 RX7 yX7_isNone wsX7_isNone) := goodIn_app (goodIn_of _ (by decide +kernel)) ggX7_toRetract_X7_isNone
set_option maxRecDepth 20000 in
theorem ggX7_toRetract_X7_isThrown : GoodIn wsX7_toRetract wsX7_isThrown := goodIn_r _ [13, 14, 53, 54, 55, 56, 57, 58, 59, 60, 61, 62, 63, 64, 65, 66, 67, 68, 69, 70, 71, 72, 73, 74, 75, 76] (by decide +kernel) (by decide +kernel)
set_option maxRecDepth 20000 in
theorem gX7_toRetract_X7_isThrown : GoodIn wsX7_toRetract (wsV RX7 97 RX7 yX7_isThrown wsX7_isThrown) := goodIn_app (goodIn_of _ (by decide +kernel)) ggX7_toRetract_X7_isThrown
set_option maxRecDepth 20000 in
theorem ggX7_toRetract_X7_isNoWish : GoodIn wsX7_toRetract wsX7_isNoWish := goodIn_r _ [18, 19, 20, 21, 4, 22, 6, 23, 24, 25, 26, 27, 28, 29, 30, 31, 32, 33, 34, 35, 36, 37, 7, 8, 9, 38, 39, 40, 41, 42, 43, 44, 45, 46, 47, 48, 49, 50, 51, 52, 10, 11, 12, 13, 14, 53, 54, 55, 56, 57, 58, 59, 60, 61, 62, 63, 64, 65, 66, 67, 68, 69, 70, 71, 72, 73, 74, 75, 76] (by decide +kernel) (by decide +kernel)
set_option maxRecDepth 20000 in
theorem gX7_toRetract_X7_isNoWish : GoodIn wsX7_toRetract (wsV RX7 186 RX7 yX7_isNoWish wsX7_isNoWish) := goodIn_app (goodIn_of _ (by decide +kernel)) ggX7_toRetract_X7_isNoWish
set_option maxRecDepth 20000 in
theorem ggX7_toRetract_X7_wrong : GoodIn wsX7_toRetract wsX7_wrong := goodIn_r _ [22, 6, 23, 24, 25, 26, 4, 27, 28, 29, 30, 31, 32, 33, 34, 35, 36, 37, 7, 8, 9, 38, 39, 40, 41, 42, 43, 44, 45, 46, 47, 48, 49, 50, 51, 52, 53, 54, 55, 56, 57, 58, 59, 60, 61, 62, 63, 64, 65, 66, 67, 68, 69, 70, 71, 72, 73, 74, 75, 76] (by decide +kernel) (by decide +kernel)
set_option maxRecDepth 20000 in
theorem gX7_toRetract_X7_wrong : GoodIn wsX7_toRetract (wsV RX7 183 RX7 yX7_wrong wsX7_wrong) := goodIn_app (goodIn_of _ (by decide +kernel)) ggX7_toRetract_X7_wrong
set_option maxRecDepth 20000 in
theorem ggX7_force_X7_isNone : GoodIn wsX7_force wsX7_isNone := goodIn_r _ [7, 8, 9, 10, 6, 11, 53, 54, 55, 56, 57, 58, 59, 60, 61, 62, 63, 64, 65, 66, 67, 68, 69, 70, 71, 72, 73, 74, 75, 76] (by decide +kernel) (by decide +kernel)
set_option maxRecDepth 20000 in
theorem gX7_force_X7_isNone : GoodIn wsX7_force (wsV RX7 94 RX7 yX7_isNone wsX7_isNone) := goodIn_app (goodIn_of _ (by decide +kernel)) ggX7_force_X7_isNone
set_option maxRecDepth 20000 in
theorem ggX7_force_X7_isThrown : GoodIn wsX7_force wsX7_isThrown := goodIn_r _ [15, 16, 53, 54, 55, 56, 57, 58, 59, 60, 61, 62, 63, 64, 65, 66, 67, 68, 69, 70, 71, 72, 73, 74, 75, 76] (by decide +kernel) (by decide +kernel)
set_option maxRecDepth 20000 in
theorem gX7_force_X7_isThrown : GoodIn wsX7_force (wsV RX7 97 RX7 yX7_isThrown wsX7_isThrown) := goodIn_app (goodIn_of _ (by decide +kernel)) ggX7_force_X7_isThrown
set_option maxRecDepth 20000 in
theorem ggX7_force_X7_isNoWish : GoodIn wsX7_force wsX7_isNoWish := goodIn_r _ [20, 21, 22, 23, 6, 24, 8, 1, 2, 25, 26, 27, 28, 29, 30, 31, 32, 33, 34, 35, 36, 37, 9, 10, 11, 38, 39, 40, 41, 42, 43, 44, 45, 46, 47, 48, 49, 50, 51, 52, 12, 13, 14, 15, 16, 53, 54, 55, 56, 57, 58, 59, 60, 61, 62, 63, 64, 65, 66, 67, 68, 69, 70, 71, 72, 73, 74, 75, 76] (by decide +kernel) (by decide +kernel)
set_option maxRecDepth 20000 in
theorem gX7_force_X7_isNoWish : GoodIn wsX7_force (wsV RX7 186 RX7 yX7_isNoWish wsX7_isNoWish) := goodIn_app (goodIn_of _ (by decide +kernel)) ggX7_force_X7_isNoWish
set_option maxRecDepth 20000 in
theorem ggX7_force_X7_wrong : GoodIn wsX7_force wsX7_wrong := goodIn_r _ [24, 8, 1, 2, 25, 26, 6, 27, 28, 29, 30, 31, 32, 33, 34, 35, 36, 37, 9, 10, 11, 38, 39, 40, 41, 42, 43, 44, 45, 46, 47, 48, 49, 50, 51, 52, 53, 54, 55, 56, 57, 58, 59, 60, 61, 62, 63, 64, 65, 66, 67, 68, 69, 70, 71, 72, 73, 74, 75, 76] (by decide +kernel) (by decide +kernel)
set_option maxRecDepth 20000 in
theorem gX7_force_X7_wrong : GoodIn wsX7_force (wsV RX7 183 RX7 yX7_wrong wsX7_wrong) := goodIn_app (goodIn_of _ (by decide +kernel)) ggX7_force_X7_wrong
set_option maxRecDepth 20000 in
theorem ggX7_force_J6_bitCount_0f7a4 : GoodIn wsX7_force wsJ6_bitCount_0f7a4 := goodIn_r _ [49, 50, 51, 52] (by decide +kernel) (by decide +kernel)
set_option maxRecDepth 20000 in
theorem gX7_force_J6_bitCount_0f7a4 : GoodIn wsX7_force (va_wsS RX7 120 yJ6_bitCount_0f7a4 wsJ6_bitCount_0f7a4) := goodIn_app (goodIn_of _ (by decide +kernel)) ggX7_force_J6_bitCount_0f7a4
set_option maxRecDepth 20000 in
theorem ggX7_line_X7_deduces : GoodIn wsX7_line wsX7_deduces := goodIn_r _ [12, 13, 6, 14, 7, 4, 5, 15, 16, 17, 11, 18, 19, 20, 21, 22, 23, 24, 25, 26, 27, 28, 29, 30, 31, 32, 33, 34, 35, 36, 37, 38, 39, 40, 41, 42, 43, 44, 45, 46, 47, 48, 49, 50, 51, 52, 271, 272, 273, 274, 275, 276, 277, 278, 279, 280, 281, 282, 283, 284, 285, 286, 287, 288, 289, 290, 291, 292, 293, 294] (by decide +kernel) (by decide +kernel)
set_option maxRecDepth 20000 in
theorem gX7_line_X7_deduces : GoodIn wsX7_line (wsV RX7 153 RX7 yX7_deduces wsX7_deduces) := goodIn_app (goodIn_of _ (by decide +kernel)) ggX7_line_X7_deduces
set_option maxRecDepth 20000 in
theorem ggX7_line_J4_init_da8c8 : GoodIn wsX7_line wsJ4_init_da8c8 := goodIn_r _ [55, 56, 57, 58, 59, 60, 61, 62, 63, 64, 65, 66, 67, 68, 69, 70, 71, 72, 73, 74, 267, 268, 269, 270] (by decide +kernel) (by decide +kernel)
set_option maxRecDepth 20000 in
theorem gX7_line_J4_init_da8c8 : GoodIn wsX7_line (wsJ4_init_da8c8) := ggX7_line_J4_init_da8c8
set_option maxRecDepth 20000 in
theorem ggX7_line_J4_append_cf468 : GoodIn wsX7_line wsJ4_append_cf468 := goodIn_r _ [78, 79, 80, 81, 82, 58, 83, 84, 65, 85, 86, 87, 88, 89, 66, 90, 91, 92, 93, 94, 95, 96, 97, 98, 99, 100, 101, 102, 103, 104, 105, 106, 107, 108, 109, 110, 111, 112, 113, 114, 115, 116, 117, 64, 118, 119, 120, 121, 122, 123, 124, 125, 126, 127, 128, 129, 63, 130, 131, 132, 133, 134, 135, 136, 137, 138, 67, 68, 69, 70, 71, 72, 73, 74, 139, 140, 141, 142, 143, 144, 145, 146, 147, 148, 149, 150, 151, 152, 153, 154, 155, 156, 157, 158, 159, 160, 161, 162, 163, 164, 165, 166, 167, 168, 169, 170, 171, 172, 173, 174, 175, 176, 177, 267, 268, 269, 270] (by decide +kernel) (by decide +kernel)
set_option maxRecDepth 20000 in
theorem gX7_line_J4_append_cf468 : GoodIn wsX7_line (wsV RX7 193 RJ4 yJ4_append_cf468 wsJ4_append_cf468) := goodIn_app (goodIn_of _ (by decide +kernel)) ggX7_line_J4_append_cf468
set_option maxRecDepth 20000 in
theorem ggX7_line_J4_append_bf812 : GoodIn wsX7_line wsJ4_append_bf812 := goodIn_r _ [181, 182, 183, 81, 184, 58, 185, 84, 65, 186, 187, 188, 189, 85, 86, 87, 88, 89, 66, 90, 91, 92, 93, 94, 95, 96, 97, 98, 99, 100, 101, 102, 103, 104, 105, 106, 107, 108, 109, 110, 111, 112, 113, 114, 115, 116, 117, 64, 118, 119, 120, 121, 122, 123, 124, 125, 126, 127, 128, 129, 63, 190, 191, 192, 193, 194, 195, 196, 69, 197, 163, 198, 199, 200, 148, 149, 150, 201, 202, 153, 203, 155, 204, 205, 158, 206, 207, 208, 209, 210, 211, 160, 161, 162, 164, 165, 267, 268, 269, 270] (by decide +kernel) (by decide +kernel)
set_option maxRecDepth 20000 in
theorem gX7_line_J4_append_bf812 : GoodIn wsX7_line (wsV RX7 197 RJ4 yJ4_append_bf812 wsJ4_append_bf812) := goodIn_app (goodIn_of _ (by decide +kernel)) ggX7_line_J4_append_bf812
set_option maxRecDepth 20000 in
theorem ggX7_line_X7_has : GoodIn wsX7_line wsX7_has := goodIn_r _ [21] (by decide +kernel) (by decide +kernel)
set_option maxRecDepth 20000 in
theorem gX7_line_X7_has : GoodIn wsX7_line (va_wsS RX7 71 yX7_has wsX7_has) := goodIn_app (goodIn_of _ (by decide +kernel)) ggX7_line_X7_has
set_option maxRecDepth 20000 in
theorem ggX7_line_J4_toString_0e30d : GoodIn wsX7_line wsJ4_toString_0e30d := goodIn_r _ [215, 216, 217, 153, 218, 219, 220, 221, 222, 223, 224, 61, 62, 225, 226, 227, 228, 229, 230, 231, 232, 58, 233, 65, 234, 235, 236, 237, 238, 3, 239, 240, 81, 241, 242, 84, 243, 126, 127, 128, 129, 63, 66, 244, 245, 110, 246, 112, 113, 114, 115, 116, 117, 247, 248, 249, 64, 118, 119, 102, 120, 121, 122, 123, 124, 250, 251, 252, 253, 2, 254, 255, 69, 256, 257, 258, 259, 145, 146, 147, 148, 149, 150, 151, 152, 154, 155, 156, 157, 158, 159, 260, 261, 262, 163, 164, 165, 71, 72, 73, 74, 263, 264, 265, 266, 295, 296, 297, 298, 267, 268, 269, 270] (by decide +kernel) (by decide +kernel)
set_option maxRecDepth 20000 in
theorem gX7_line_J4_toString_0e30d : GoodIn wsX7_line (wsV RX7 200 RJ4 yJ4_toString_0e30d wsJ4_toString_0e30d) := goodIn_app (goodIn_of _ (by decide +kernel)) ggX7_line_J4_toString_0e30d
set_option maxRecDepth 20000 in
theorem ggX7_lineLength_X7_line : GoodIn wsX7_lineLength wsX7_line := goodIn_r _ [6, 7, 8, 9, 10, 11, 12, 13, 14, 15, 16, 5, 17, 18, 19, 20, 21, 22, 23, 24, 25, 26, 27, 28, 29, 30, 31, 32, 33, 34, 35, 36, 37, 38, 39, 40, 41, 42, 43, 44, 45, 46, 47, 48, 49, 50, 51, 52, 53, 54, 55, 56, 57, 58, 59, 60, 61, 62, 63, 64, 65, 66, 67, 68, 69, 70, 71, 72, 73, 74, 75, 76, 77, 78, 79, 80, 81, 82, 83, 84, 85, 86, 87, 88, 89, 90, 91, 92, 93, 94, 95, 96, 97, 98, 99, 100, 101, 102, 103, 104, 105, 106, 107, 108, 109, 110, 111, 112, 113, 114, 115, 116, 117, 118, 119, 120, 121, 122, 123, 124, 125, 126, 127, 128, 129, 130, 131, 132, 133, 134, 135, 136, 137, 138, 139, 140, 141, 142, 143, 144, 145, 146, 147, 148, 149, 150, 151, 152, 153, 154, 155, 156, 157, 158, 159, 160, 161, 162, 163, 164, 165, 166, 167, 168, 169, 170, 171, 172, 173, 174, 175, 176, 177, 178, 179, 180, 181, 182, 183, 184, 185, 186, 187, 188, 189, 190, 191, 192, 193, 194, 195, 196, 197, 198, 199, 200, 201, 202, 203, 204, 205, 206, 207, 208, 209, 210, 211, 212, 213, 214, 215, 216, 217, 218, 219, 220, 221, 222, 223, 224, 225, 226, 227, 228, 229, 230, 231, 232, 233, 234, 235, 236, 237, 238, 239, 240, 241, 242, 243, 244, 245, 246, 247, 248, 249, 250, 251, 252, 253, 254, 255, 256, 257, 258, 259, 260, 261, 262, 263, 264, 265, 266, 267, 268, 269, 270, 271, 304, 305, 306, 307, 280, 281, 282, 283, 284, 285, 286, 287, 288, 289, 290, 291, 292, 293, 294, 295, 296, 297, 298, 299, 300, 301, 302, 303, 308, 309, 310, 311] (by decide +kernel) (by decide +kernel)
set_option maxRecDepth 20000 in
theorem gX7_lineLength_X7_line : GoodIn wsX7_lineLength (wsV RX7 204 RX7 yX7_line wsX7_line) := goodIn_app (goodIn_of _ (by decide +kernel)) ggX7_lineLength_X7_line
set_option maxRecDepth 20000 in
theorem ggX7_lineLength_J0_length_8abf5 : GoodIn wsX7_lineLength wsJ0_length_8abf5 := goodIn_r _ [275, 231, 276, 277, 278, 158, 279, 232, 230, 308, 309, 310, 311] (by decide +kernel) (by decide +kernel)
set_option maxRecDepth 20000 in
theorem gX7_lineLength_J0_length_8abf5 : GoodIn wsX7_lineLength (wsV RX7 207 RJ0 yJ0_length_8abf5 wsJ0_length_8abf5) := goodIn_app (goodIn_of _ (by decide +kernel)) ggX7_lineLength_J0_length_8abf5
set_option maxRecDepth 20000 in
theorem ggX7_lineAt_X7_line : GoodIn wsX7_lineAt wsX7_line := goodIn_r _ [5, 6, 7, 8, 9, 10, 11, 12, 13, 14, 15, 4, 16, 17, 18, 19, 20, 21, 22, 23, 24, 25, 26, 27, 28, 29, 30, 31, 32, 33, 34, 35, 36, 37, 38, 39, 40, 41, 42, 43, 44, 45, 46, 47, 48, 49, 50, 51, 52, 53, 54, 55, 56, 57, 58, 59, 60, 61, 62, 63, 64, 65, 66, 67, 68, 69, 70, 71, 72, 73, 74, 75, 76, 77, 78, 79, 80, 81, 82, 83, 84, 85, 86, 87, 88, 89, 90, 91, 92, 93, 94, 95, 96, 97, 98, 99, 100, 101, 102, 103, 104, 105, 106, 107, 108, 109, 110, 111, 112, 113, 114, 115, 116, 117, 118, 119, 120, 121, 122, 123, 124, 125, 126, 127, 128, 129, 130, 131, 132, 133, 134, 135, 136, 137, 138, 139, 140, 141, 142, 143, 144, 145, 146, 147, 148, 149, 150, 151, 152, 153, 154, 155, 156, 157, 158, 159, 160, 161, 162, 163, 164, 165, 166, 167, 168, 169, 170, 171, 172, 173, 174, 175, 176, 177, 178, 179, 180, 181, 182, 183, 184, 185, 186, 187, 188, 189, 190, 191, 192, 193, 194, 195, 196, 197, 198, 199, 200, 201, 202, 203, 204, 205, 206, 207, 208, 209, 210, 211, 212, 213, 214, 215, 216, 217, 218, 219, 220, 221, 222, 223, 224, 225, 226, 227, 228, 229, 230, 231, 232, 233, 234, 235, 236, 237, 238, 239, 240, 241, 242, 243, 244, 245, 246, 247, 248, 249, 250, 251, 252, 253, 254, 255, 256, 257, 258, 259, 260, 261, 262, 263, 264, 265, 266, 267, 268, 269, 270, 302, 303, 304, 305, 306, 307, 308, 309, 310, 311, 312, 313, 314, 315, 316, 317, 318, 319, 320, 321, 322, 323, 324, 325, 326, 327, 328, 329, 330, 331, 332, 333] (by decide +kernel) (by decide +kernel)
set_option maxRecDepth 20000 in
theorem gX7_lineAt_X7_line : GoodIn wsX7_lineAt (wsV RX7 204 RX7 yX7_line wsX7_line) := goodIn_app (goodIn_of _ (by decide +kernel)) ggX7_lineAt_X7_line
set_option maxRecDepth 20000 in
theorem ggX7_lineAt_J0_length_8abf5 : GoodIn wsX7_lineAt wsJ0_length_8abf5 := goodIn_r _ [274, 230, 275, 276, 277, 157, 278, 231, 229, 330, 331, 332, 333] (by decide +kernel) (by decide +kernel)
set_option maxRecDepth 20000 in
theorem gX7_lineAt_J0_length_8abf5 : GoodIn wsX7_lineAt (wsV RX7 207 RJ0 yJ0_length_8abf5 wsJ0_length_8abf5) := goodIn_app (goodIn_of _ (by decide +kernel)) ggX7_lineAt_J0_length_8abf5
set_option maxRecDepth 20000 in
theorem ggX7_lineAt_X7_isIn : GoodIn wsX7_lineAt wsX7_isIn := goodIn_r _ [281] (by decide +kernel) (by decide +kernel)
set_option maxRecDepth 20000 in
theorem gX7_lineAt_X7_isIn : GoodIn wsX7_lineAt (va_wsS RX7 67 yX7_isIn wsX7_isIn) := goodIn_app (goodIn_of _ (by decide +kernel)) ggX7_lineAt_X7_isIn
set_option maxRecDepth 20000 in
theorem ggX7_lineAt_X7_isThrown : GoodIn wsX7_lineAt wsX7_isThrown := goodIn_r _ [285, 286, 306, 307, 308, 309, 310, 311, 312, 313, 314, 315, 316, 317, 318, 319, 320, 321, 322, 323, 324, 325, 326, 327, 328, 329] (by decide +kernel) (by decide +kernel)
set_option maxRecDepth 20000 in
theorem gX7_lineAt_X7_isThrown : GoodIn wsX7_lineAt (wsV RX7 97 RX7 yX7_isThrown wsX7_isThrown) := goodIn_app (goodIn_of _ (by decide +kernel)) ggX7_lineAt_X7_isThrown
set_option maxRecDepth 20000 in
theorem ggX7_lineAt_J0_charAt_5068e : GoodIn wsX7_lineAt wsJ0_charAt_5068e := goodIn_r _ [290, 230, 291, 292, 293, 157, 294, 231, 229, 295, 296, 136, 297, 298, 177, 178, 159, 179, 180, 162, 181, 299, 300, 73, 301, 173, 174, 175, 152, 153, 154, 176, 264, 265, 266, 167, 168, 169, 330, 331, 332, 333] (by decide +kernel) (by decide +kernel)
set_option maxRecDepth 20000 in
theorem gX7_lineAt_J0_charAt_5068e : GoodIn wsX7_lineAt (wsV RX7 212 RJ0 yJ0_charAt_5068e wsJ0_charAt_5068e) := goodIn_app (goodIn_of _ (by decide +kernel)) ggX7_lineAt_J0_charAt_5068e
set_option maxRecDepth 20000 in
theorem ggX7_knownShare_X7_unknowns : GoodIn wsX7_knownShare wsX7_unknowns := goodIn_r _ [7, 2, 8, 9, 10, 11, 12, 6, 13, 14, 15, 16, 17, 18, 19, 20, 21, 22, 23, 24, 25, 26, 27, 28, 29, 30, 31, 32, 33, 34, 35, 36, 37, 38, 39, 40, 41, 42, 43, 44, 45, 46, 47, 48, 49, 50, 51, 52, 53, 54, 55, 56, 57, 58, 59, 60, 61, 62, 63, 64, 65, 66, 67, 68, 69, 70, 71, 72, 73, 74, 75, 76, 77, 78, 79, 80, 81, 82, 83, 84, 85] (by decide +kernel) (by decide +kernel)
set_option maxRecDepth 20000 in
theorem gX7_knownShare_X7_unknowns : GoodIn wsX7_knownShare (wsV RX7 112 RX7 yX7_unknowns wsX7_unknowns) := goodIn_app (goodIn_of _ (by decide +kernel)) ggX7_knownShare_X7_unknowns
set_option maxRecDepth 20000 in
theorem ggX7_meanPrice_X7_completes : GoodIn wsX7_meanPrice wsX7_completes := goodIn_r _ [7, 8, 9, 10, 11, 12, 6, 13, 2, 14, 15, 16, 17, 18, 19, 20, 21, 22, 23, 24, 25, 26, 27, 28, 29, 30, 31, 32, 33, 55, 56, 57, 58, 59, 60, 61, 62, 63, 64, 65, 66, 67, 68, 69, 70, 71, 72, 73, 74, 75, 76, 77, 78] (by decide +kernel) (by decide +kernel)
set_option maxRecDepth 20000 in
theorem gX7_meanPrice_X7_completes : GoodIn wsX7_meanPrice (wsV RX7 91 RX7 yX7_completes wsX7_completes) := goodIn_app (goodIn_of _ (by decide +kernel)) ggX7_meanPrice_X7_completes
set_option maxRecDepth 20000 in
theorem ggX7_meanPrice_X7_priced : GoodIn wsX7_meanPrice wsX7_priced := goodIn_r _ [37, 2, 38, 39, 40, 41, 42, 43, 44, 45, 46, 47, 20, 21, 6, 22, 48, 49, 50, 51, 52, 53, 54, 55, 56, 57, 58, 59, 60, 61, 62, 63, 64, 65, 66, 67, 68, 69, 70, 71, 72, 73, 74, 75, 76, 77, 78] (by decide +kernel) (by decide +kernel)
set_option maxRecDepth 20000 in
theorem gX7_meanPrice_X7_priced : GoodIn wsX7_meanPrice (wsV RX7 174 RX7 yX7_priced wsX7_priced) := goodIn_app (goodIn_of _ (by decide +kernel)) ggX7_meanPrice_X7_priced
