set_option maxRecDepth 20000 in
theorem ggX13_feed_X13_lays : GoodIn wsX13_feed wsX13_lays := goodIn_r _ [7, 8, 2, 9, 10, 11, 12, 13, 14, 15, 16, 17, 18, 19, 20, 21, 22, 23, 24, 25, 26, 27, 28, 29, 30, 31, 32, 33, 34, 35, 36, 37, 38, 39, 40, 41, 42, 43, 44, 45, 46, 47, 48, 49, 50, 51, 52, 53, 54, 55, 56, 57, 58, 59, 60, 61, 62, 63, 64, 65, 66, 67, 68, 69, 70, 71, 72] rfl (by decide +kernel)
set_option maxRecDepth 20000 in
theorem gX13_feed_X13_lays : GoodIn wsX13_feed (wsV RX13 141 RX13 yX13_lays wsX13_lays) := goodIn_app (goodIn_of _ (by decide +kernel)) ggX13_feed_X13_lays
set_option maxRecDepth 20000 in
theorem ggX13_steps_X13_byteAt : GoodIn wsX13_steps wsX13_byteAt := goodIn_r _ [13, 2, 14, 21, 22, 23, 24, 25, 26, 27, 28, 29, 30, 31, 32, 33, 34, 35, 36, 37, 38, 39, 40, 41, 42, 43, 44, 45, 46, 47, 48, 49, 50, 51, 52, 53, 54, 55, 56, 57, 58, 59, 60, 61, 62, 63, 64, 65, 66, 67, 68, 69, 70, 71, 72, 73, 74, 75, 76, 77, 78, 79, 80, 81, 82, 83, 84] rfl (by decide +kernel)
set_option maxRecDepth 20000 in
theorem gX13_steps_X13_byteAt : GoodIn wsX13_steps (wsV RX13 151 RX13 yX13_byteAt wsX13_byteAt) := goodIn_app (goodIn_of _ (by decide +kernel)) ggX13_steps_X13_byteAt
set_option maxRecDepth 20000 in
theorem ggX13_steps_X13_isLetter : GoodIn wsX13_steps wsX13_isLetter := goodIn_r _ [17] rfl (by decide +kernel)
set_option maxRecDepth 20000 in
theorem gX13_steps_X13_isLetter : GoodIn wsX13_steps (va_wsS RX13 168 yX13_isLetter wsX13_isLetter) := goodIn_app (goodIn_of _ (by decide +kernel)) ggX13_steps_X13_isLetter
set_option maxRecDepth 20000 in
theorem ggX13_steps_X13_isDigit : GoodIn wsX13_steps wsX13_isDigit := goodIn_r _ [20] rfl (by decide +kernel)
set_option maxRecDepth 20000 in
theorem gX13_steps_X13_isDigit : GoodIn wsX13_steps (va_wsS RX13 172 yX13_isDigit wsX13_isDigit) := goodIn_app (goodIn_of _ (by decide +kernel)) ggX13_steps_X13_isDigit
set_option maxRecDepth 20000 in
theorem ggX13_letters_X13_spelled : GoodIn wsX13_letters wsX13_spelled := goodIn_r _ [4, 5] rfl (by decide +kernel)
set_option maxRecDepth 20000 in
theorem gX13_letters_X13_spelled : GoodIn wsX13_letters (va_wsS RX13 180 yX13_spelled wsX13_spelled) := goodIn_app (goodIn_of _ (by decide +kernel)) ggX13_letters_X13_spelled
set_option maxRecDepth 20000 in
theorem ggX13_is_X13_letters : GoodIn wsX13_is wsX13_letters := goodIn_r _ [7, 8, 9, 6, 10, 11] rfl (by decide +kernel)
set_option maxRecDepth 20000 in
theorem gX13_is_X13_letters : GoodIn wsX13_is (va_wsS RX13 184 yX13_letters wsX13_letters) := goodIn_app (goodIn_of _ (by decide +kernel)) ggX13_is_X13_letters
set_option maxRecDepth 20000 in
theorem ggX13_need_X13_isGood : GoodIn wsX13_need wsX13_isGood := goodIn_r _ [5, 6, 35, 36, 37, 38, 39, 40, 41, 42, 43, 44, 45, 46, 47, 48, 49, 50, 51, 52, 53, 54, 55, 56, 57, 58, 59, 60, 61, 62, 63, 64, 65, 66, 67, 68, 69, 70, 71, 72, 73, 74, 75, 76, 77, 78, 79, 80, 81, 82, 83, 84, 85, 86, 87, 88, 89, 90, 91, 92, 93, 94, 95, 96, 97, 98] rfl (by decide +kernel)
set_option maxRecDepth 20000 in
theorem gX13_need_X13_isGood : GoodIn wsX13_need (wsV RX13 191 RX13 yX13_isGood wsX13_isGood) := goodIn_app (goodIn_of _ (by decide +kernel)) ggX13_need_X13_isGood
set_option maxRecDepth 20000 in
theorem ggX13_need_X13_steps : GoodIn wsX13_need wsX13_steps := goodIn_r _ [10, 11, 12, 13, 14, 15, 16, 17, 18, 19, 20, 21, 4, 22, 23, 24, 25, 26, 27, 28, 29, 35, 36, 37, 38, 39, 40, 41, 42, 43, 44, 45, 46, 47, 48, 49, 50, 51, 52, 53, 54, 55, 56, 57, 58, 59, 60, 61, 62, 63, 64, 65, 66, 67, 68, 69, 70, 71, 72, 73, 74, 75, 76, 77, 78, 79, 80, 81, 82, 83, 84, 85, 86, 87, 88, 89, 90, 91, 92, 93, 94, 95, 96, 97, 98] rfl (by decide +kernel)
set_option maxRecDepth 20000 in
theorem gX13_need_X13_steps : GoodIn wsX13_need (wsV RX13 195 RX13 yX13_steps wsX13_steps) := goodIn_app (goodIn_of _ (by decide +kernel)) ggX13_need_X13_steps
set_option maxRecDepth 20000 in
theorem ggX13_need_X13_wrong : GoodIn wsX13_need wsX13_wrong := goodIn_r _ [33, 6, 13, 34, 35, 36, 37, 38, 39, 40, 41, 42, 43, 44, 45, 46, 47, 48, 49, 50, 51, 52, 53, 54, 55, 56, 57, 58, 59, 60, 61, 62, 63, 64, 65, 66, 67, 68, 69, 70, 71, 72, 73, 74, 75, 76, 77, 78, 79, 80, 81, 82, 83, 84, 85, 86, 87, 88, 89, 90, 91, 92, 93, 94, 95, 96, 97, 98] rfl (by decide +kernel)
set_option maxRecDepth 20000 in
theorem gX13_need_X13_wrong : GoodIn wsX13_need (wsV RX13 198 RX13 yX13_wrong wsX13_wrong) := goodIn_app (goodIn_of _ (by decide +kernel)) ggX13_need_X13_wrong
set_option maxRecDepth 20000 in
theorem ggX13_number_X13_isGood : GoodIn wsX13_number wsX13_isGood := goodIn_r _ [8, 9, 35, 36, 37, 38, 39, 40, 41, 42, 43, 44, 45, 46, 47, 48, 49, 50, 51, 52, 53, 54, 55, 56, 57, 58, 59, 60, 61, 62, 63, 64, 65, 66, 67, 68, 69, 70, 71, 72, 73, 74, 75, 76, 77, 78, 79, 80, 81, 82, 83, 84, 85, 86, 87, 88, 89, 90, 91, 92, 93, 94, 95, 96, 97, 98] rfl (by decide +kernel)
set_option maxRecDepth 20000 in
theorem gX13_number_X13_isGood : GoodIn wsX13_number (wsV RX13 191 RX13 yX13_isGood wsX13_isGood) := goodIn_app (goodIn_of _ (by decide +kernel)) ggX13_number_X13_isGood
set_option maxRecDepth 20000 in
theorem ggX13_number_X13_wrong : GoodIn wsX13_number wsX13_wrong := goodIn_r _ [13, 9, 14, 15, 35, 36, 37, 38, 39, 40, 41, 42, 43, 44, 45, 46, 47, 48, 49, 50, 51, 52, 53, 54, 55, 56, 57, 58, 59, 60, 61, 62, 63, 64, 65, 66, 67, 68, 69, 70, 71, 72, 73, 74, 75, 76, 77, 78, 79, 80, 81, 82, 83, 84, 85, 86, 87, 88, 89, 90, 91, 92, 93, 94, 95, 96, 97, 98] rfl (by decide +kernel)
set_option maxRecDepth 20000 in
theorem gX13_number_X13_wrong : GoodIn wsX13_number (wsV RX13 198 RX13 yX13_wrong wsX13_wrong) := goodIn_app (goodIn_of _ (by decide +kernel)) ggX13_number_X13_wrong
set_option maxRecDepth 20000 in
theorem ggX13_number_X13_steps : GoodIn wsX13_number wsX13_steps := goodIn_r _ [19, 20, 21, 14, 22, 3, 1, 23, 2, 24, 25, 26, 7, 27, 28, 29, 30, 31, 32, 33, 34, 35, 36, 37, 38, 39, 40, 41, 42, 43, 44, 45, 46, 47, 48, 49, 50, 51, 52, 53, 54, 55, 56, 57, 58, 59, 60, 61, 62, 63, 64, 65, 66, 67, 68, 69, 70, 71, 72, 73, 74, 75, 76, 77, 78, 79, 80, 81, 82, 83, 84, 85, 86, 87, 88, 89, 90, 91, 92, 93, 94, 95, 96, 97, 98] rfl (by decide +kernel)
set_option maxRecDepth 20000 in
theorem gX13_number_X13_steps : GoodIn wsX13_number (wsV RX13 195 RX13 yX13_steps wsX13_steps) := goodIn_app (goodIn_of _ (by decide +kernel)) ggX13_number_X13_steps
set_option maxRecDepth 20000 in
theorem ggX13_among_X13_isGood : GoodIn wsX13_among wsX13_isGood := goodIn_r _ [8, 9, 35, 36, 37, 38, 39, 40, 41, 42, 43, 44, 45, 46, 47, 48, 49, 50, 51, 52, 53, 54, 55, 56, 57, 58, 59, 60, 61, 62, 63, 64, 65, 66, 67, 68, 69, 70, 71, 72, 73, 74, 75, 76, 77, 78, 79, 80, 81, 82, 83, 84, 85, 86, 87, 88, 89, 90, 91, 92, 93, 94, 95, 96, 97, 98] rfl (by decide +kernel)
set_option maxRecDepth 20000 in
theorem gX13_among_X13_isGood : GoodIn wsX13_among (wsV RX13 191 RX13 yX13_isGood wsX13_isGood) := goodIn_app (goodIn_of _ (by decide +kernel)) ggX13_among_X13_isGood
set_option maxRecDepth 20000 in
theorem ggX13_among_X13_wrong : GoodIn wsX13_among wsX13_wrong := goodIn_r _ [13, 9, 14, 15, 35, 36, 37, 38, 39, 40, 41, 42, 43, 44, 45, 46, 47, 48, 49, 50, 51, 52, 53, 54, 55, 56, 57, 58, 59, 60, 61, 62, 63, 64, 65, 66, 67, 68, 69, 70, 71, 72, 73, 74, 75, 76, 77, 78, 79, 80, 81, 82, 83, 84, 85, 86, 87, 88, 89, 90, 91, 92, 93, 94, 95, 96, 97, 98] rfl (by decide +kernel)
set_option maxRecDepth 20000 in
theorem gX13_among_X13_wrong : GoodIn wsX13_among (wsV RX13 198 RX13 yX13_wrong wsX13_wrong) := goodIn_app (goodIn_of _ (by decide +kernel)) ggX13_among_X13_wrong
set_option maxRecDepth 20000 in
theorem ggX13_among_X13_steps : GoodIn wsX13_among wsX13_steps := goodIn_r _ [19, 20, 21, 14, 22, 3, 1, 23, 2, 24, 25, 26, 7, 27, 28, 29, 30, 31, 32, 33, 34, 35, 36, 37, 38, 39, 40, 41, 42, 43, 44, 45, 46, 47, 48, 49, 50, 51, 52, 53, 54, 55, 56, 57, 58, 59, 60, 61, 62, 63, 64, 65, 66, 67, 68, 69, 70, 71, 72, 73, 74, 75, 76, 77, 78, 79, 80, 81, 82, 83, 84, 85, 86, 87, 88, 89, 90, 91, 92, 93, 94, 95, 96, 97, 98] rfl (by decide +kernel)
set_option maxRecDepth 20000 in
theorem gX13_among_X13_steps : GoodIn wsX13_among (wsV RX13 195 RX13 yX13_steps wsX13_steps) := goodIn_app (goodIn_of _ (by decide +kernel)) ggX13_among_X13_steps
set_option maxRecDepth 20000 in
theorem ggX13_figures_X13_isGood : GoodIn wsX13_figures wsX13_isGood := goodIn_r _ [8, 9, 35, 36, 37, 38, 39, 40, 41, 42, 43, 44, 45, 46, 47, 48, 49, 50, 51, 52, 53, 54, 55, 56, 57, 58, 59, 60, 61, 62, 63, 64, 65, 66, 67, 68, 69, 70, 71, 72, 73, 74, 75, 76, 77, 78, 79, 80, 81, 82, 83, 84, 85, 86, 87, 88, 89, 90, 91, 92, 93, 94, 95, 96, 97, 98] rfl (by decide +kernel)
set_option maxRecDepth 20000 in
theorem gX13_figures_X13_isGood : GoodIn wsX13_figures (wsV RX13 191 RX13 yX13_isGood wsX13_isGood) := goodIn_app (goodIn_of _ (by decide +kernel)) ggX13_figures_X13_isGood
set_option maxRecDepth 20000 in
theorem ggX13_figures_X13_wrong : GoodIn wsX13_figures wsX13_wrong := goodIn_r _ [13, 9, 14, 15, 35, 36, 37, 38, 39, 40, 41, 42, 43, 44, 45, 46, 47, 48, 49, 50, 51, 52, 53, 54, 55, 56, 57, 58, 59, 60, 61, 62, 63, 64, 65, 66, 67, 68, 69, 70, 71, 72, 73, 74, 75, 76, 77, 78, 79, 80, 81, 82, 83, 84, 85, 86, 87, 88, 89, 90, 91, 92, 93, 94, 95, 96, 97, 98] rfl (by decide +kernel)
set_option maxRecDepth 20000 in
theorem gX13_figures_X13_wrong : GoodIn wsX13_figures (wsV RX13 198 RX13 yX13_wrong wsX13_wrong) := goodIn_app (goodIn_of _ (by decide +kernel)) ggX13_figures_X13_wrong
set_option maxRecDepth 20000 in
theorem ggX13_figures_X13_steps : GoodIn wsX13_figures wsX13_steps := goodIn_r _ [19, 20, 21, 14, 22, 23, 1, 3, 2, 24, 25, 26, 7, 27, 28, 29, 30, 31, 32, 33, 34, 35, 36, 37, 38, 39, 40, 41, 42, 43, 44, 45, 46, 47, 48, 49, 50, 51, 52, 53, 54, 55, 56, 57, 58, 59, 60, 61, 62, 63, 64, 65, 66, 67, 68, 69, 70, 71, 72, 73, 74, 75, 76, 77, 78, 79, 80, 81, 82, 83, 84, 85, 86, 87, 88, 89, 90, 91, 92, 93, 94, 95, 96, 97, 98] rfl (by decide +kernel)
set_option maxRecDepth 20000 in
theorem gX13_figures_X13_steps : GoodIn wsX13_figures (wsV RX13 195 RX13 yX13_steps wsX13_steps) := goodIn_app (goodIn_of _ (by decide +kernel)) ggX13_figures_X13_steps
set_option maxRecDepth 20000 in
theorem ggX13_line_X13_is : GoodIn wsX13_line wsX13_is := goodIn_r _ [17, 12, 18, 19, 20, 21, 16, 22, 23, 24, 25, 26, 73, 74, 75, 76, 77, 78, 79, 80, 81, 82, 83, 84, 85, 86, 87, 88, 89, 90, 91, 92, 93, 94, 95, 96, 97, 98, 99, 100, 101, 102, 103, 104, 105, 106, 107, 108, 109, 110, 111, 112, 113, 114, 115, 116, 117, 118, 119, 120, 121, 122, 123, 124, 125, 126, 127, 128, 129, 130, 131, 132, 133, 134, 135, 136] rfl (by decide +kernel)
set_option maxRecDepth 20000 in
theorem gX13_line_X13_is : GoodIn wsX13_line (wsV RX13 201 RX13 yX13_is wsX13_is) := goodIn_app (goodIn_of _ (by decide +kernel)) ggX13_line_X13_is
set_option maxRecDepth 20000 in
theorem ggX13_line_X13_wrong : GoodIn wsX13_line wsX13_wrong := goodIn_r _ [30, 31, 32, 33, 73, 74, 75, 76, 77, 78, 79, 80, 81, 82, 83, 84, 85, 86, 87, 88, 89, 90, 91, 92, 93, 94, 95, 96, 97, 98, 99, 100, 101, 102, 103, 104, 105, 106, 107, 108, 109, 110, 111, 112, 113, 114, 115, 116, 117, 118, 119, 120, 121, 122, 123, 124, 125, 126, 127, 128, 129, 130, 131, 132, 133, 134, 135, 136] rfl (by decide +kernel)
set_option maxRecDepth 20000 in
theorem gX13_line_X13_wrong : GoodIn wsX13_line (wsV RX13 198 RX13 yX13_wrong wsX13_wrong) := goodIn_app (goodIn_of _ (by decide +kernel)) ggX13_line_X13_wrong
set_option maxRecDepth 20000 in
theorem ggX13_line_X13_isGood : GoodIn wsX13_line wsX13_isGood := goodIn_r _ [37, 31, 73, 74, 75, 76, 77, 78, 79, 80, 81, 82, 83, 84, 85, 86, 87, 88, 89, 90, 91, 92, 93, 94, 95, 96, 97, 98, 99, 100, 101, 102, 103, 104, 105, 106, 107, 108, 109, 110, 111, 112, 113, 114, 115, 116, 117, 118, 119, 120, 121, 122, 123, 124, 125, 126, 127, 128, 129, 130, 131, 132, 133, 134, 135, 136] rfl (by decide +kernel)
set_option maxRecDepth 20000 in
theorem gX13_line_X13_isGood : GoodIn wsX13_line (wsV RX13 191 RX13 yX13_isGood wsX13_isGood) := goodIn_app (goodIn_of _ (by decide +kernel)) ggX13_line_X13_isGood
set_option maxRecDepth 20000 in
theorem ggX13_line_X13_steps : GoodIn wsX13_line wsX13_steps := goodIn_r _ [41, 42, 43, 32, 19, 44, 12, 45, 18, 46, 47, 48, 16, 49, 50, 51, 52, 53, 54, 55, 56, 73, 74, 75, 76, 77, 78, 79, 80, 81, 82, 83, 84, 85, 86, 87, 88, 89, 90, 91, 92, 93, 94, 95, 96, 97, 98, 99, 100, 101, 102, 103, 104, 105, 106, 107, 108, 109, 110, 111, 112, 113, 114, 115, 116, 117, 118, 119, 120, 121, 122, 123, 124, 125, 126, 127, 128, 129, 130, 131, 132, 133, 134, 135, 136] rfl (by decide +kernel)
set_option maxRecDepth 20000 in
theorem gX13_line_X13_steps : GoodIn wsX13_line (wsV RX13 195 RX13 yX13_steps wsX13_steps) := goodIn_app (goodIn_of _ (by decide +kernel)) ggX13_line_X13_steps
set_option maxRecDepth 20000 in
theorem ggX13_line_X13_number : GoodIn wsX13_line wsX13_number := goodIn_r _ [60, 12, 18, 44, 34, 35, 36, 16, 37, 31, 27, 28, 29, 30, 32, 33, 38, 39, 40, 41, 42, 43, 19, 45, 46, 47, 48, 49, 50, 51, 52, 53, 54, 55, 56, 73, 74, 75, 76, 77, 78, 79, 80, 81, 82, 83, 84, 85, 86, 87, 88, 89, 90, 91, 92, 93, 94, 95, 96, 97, 98, 99, 100, 101, 102, 103, 104, 105, 106, 107, 108, 109, 110, 111, 112, 113, 114, 115, 116, 117, 118, 119, 120, 121, 122, 123, 124, 125, 126, 127, 128, 129, 130, 131, 132, 133, 134, 135, 136] rfl (by decide +kernel)
set_option maxRecDepth 20000 in
theorem gX13_line_X13_number : GoodIn wsX13_line (wsV RX13 210 RX13 yX13_number wsX13_number) := goodIn_app (goodIn_of _ (by decide +kernel)) ggX13_line_X13_number
set_option maxRecDepth 20000 in
theorem ggX13_line_X13_among : GoodIn wsX13_line wsX13_among := goodIn_r _ [64, 12, 18, 44, 34, 35, 36, 16, 37, 31, 27, 28, 29, 30, 32, 33, 38, 39, 40, 41, 42, 43, 19, 45, 46, 47, 48, 49, 50, 51, 52, 53, 54, 55, 56, 73, 74, 75, 76, 77, 78, 79, 80, 81, 82, 83, 84, 85, 86, 87, 88, 89, 90, 91, 92, 93, 94, 95, 96, 97, 98, 99, 100, 101, 102, 103, 104, 105, 106, 107, 108, 109, 110, 111, 112, 113, 114, 115, 116, 117, 118, 119, 120, 121, 122, 123, 124, 125, 126, 127, 128, 129, 130, 131, 132, 133, 134, 135, 136] rfl (by decide +kernel)
set_option maxRecDepth 20000 in
theorem gX13_line_X13_among : GoodIn wsX13_line (wsV RX13 217 RX13 yX13_among wsX13_among) := goodIn_app (goodIn_of _ (by decide +kernel)) ggX13_line_X13_among
set_option maxRecDepth 20000 in
theorem ggX13_line_X13_figures : GoodIn wsX13_line wsX13_figures := goodIn_r _ [68, 12, 18, 45, 34, 35, 36, 16, 37, 31, 27, 28, 29, 30, 32, 33, 38, 39, 40, 41, 42, 43, 19, 44, 46, 47, 48, 49, 50, 51, 52, 53, 54, 55, 56, 73, 74, 75, 76, 77, 78, 79, 80, 81, 82, 83, 84, 85, 86, 87, 88, 89, 90, 91, 92, 93, 94, 95, 96, 97, 98, 99, 100, 101, 102, 103, 104, 105, 106, 107, 108, 109, 110, 111, 112, 113, 114, 115, 116, 117, 118, 119, 120, 121, 122, 123, 124, 125, 126, 127, 128, 129, 130, 131, 132, 133, 134, 135, 136] rfl (by decide +kernel)
set_option maxRecDepth 20000 in
theorem gX13_line_X13_figures : GoodIn wsX13_line (wsV RX13 220 RX13 yX13_figures wsX13_figures) := goodIn_app (goodIn_of _ (by decide +kernel)) ggX13_line_X13_figures
set_option maxRecDepth 20000 in
theorem ggX13_line_X13_need : GoodIn wsX13_line wsX13_need := goodIn_r _ [72, 34, 35, 36, 16, 37, 31, 38, 39, 40, 41, 42, 43, 32, 19, 44, 12, 45, 18, 46, 47, 48, 49, 50, 51, 52, 53, 54, 55, 56, 27, 28, 29, 30, 33, 73, 74, 75, 76, 77, 78, 79, 80, 81, 82, 83, 84, 85, 86, 87, 88, 89, 90, 91, 92, 93, 94, 95, 96, 97, 98, 99, 100, 101, 102, 103, 104, 105, 106, 107, 108, 109, 110, 111, 112, 113, 114, 115, 116, 117, 118, 119, 120, 121, 122, 123, 124, 125, 126, 127, 128, 129, 130, 131, 132, 133, 134, 135, 136] rfl (by decide +kernel)
set_option maxRecDepth 20000 in
theorem gX13_line_X13_need : GoodIn wsX13_line (wsV RX13 231 RX13 yX13_need wsX13_need) := goodIn_app (goodIn_of _ (by decide +kernel)) ggX13_line_X13_need
set_option maxRecDepth 20000 in
theorem ggX13_opens_X13_steps : GoodIn wsX13_opens wsX13_steps := goodIn_r _ [10, 5, 4, 11, 12, 13, 14, 15, 16, 17, 18, 19, 9, 20, 21, 22, 23, 24, 25, 26, 27, 28, 29, 30, 31, 32, 33, 34, 35, 36, 37, 38, 39, 40, 41, 42, 43, 44, 45, 46, 47, 48, 49, 50, 51, 52, 53, 54, 55, 56, 57, 58, 59, 60, 61, 62, 63, 64, 65, 66, 67, 68, 69, 70, 71, 72, 73, 74, 75, 76, 77, 78, 79, 80, 81, 82, 83, 84, 85, 86, 87, 88, 89, 90, 91] rfl (by decide +kernel)
set_option maxRecDepth 20000 in
theorem gX13_opens_X13_steps : GoodIn wsX13_opens (wsV RX13 195 RX13 yX13_steps wsX13_steps) := goodIn_app (goodIn_of _ (by decide +kernel)) ggX13_opens_X13_steps
set_option maxRecDepth 20000 in
theorem ggX13_village_X13_right : GoodIn wsX13_village wsX13_right := goodIn_r _ [33, 1, 110, 111, 112, 113, 114, 115, 116, 117, 118, 119, 120, 121, 122, 123, 124, 125, 126, 127, 128, 129, 130, 131, 132, 133, 134, 135, 136, 137, 138, 139, 140, 141, 142, 143, 144, 145, 146, 147, 148, 149, 150, 151, 152, 153, 154, 155, 156, 157, 158, 159, 160, 161, 162, 163, 164, 165, 166, 167, 168, 169, 170, 171, 172, 173] rfl (by decide +kernel)
set_option maxRecDepth 20000 in
theorem gX13_village_X13_right : GoodIn wsX13_village (wsV RX13 235 RX13 yX13_right wsX13_right) := goodIn_app (goodIn_of _ (by decide +kernel)) ggX13_village_X13_right
set_option maxRecDepth 20000 in
theorem ggX13_village_X13_opens : GoodIn wsX13_village wsX13_opens := goodIn_r _ [37, 2, 38, 10, 39, 40, 41, 42, 43, 32, 44, 45, 46, 47, 8, 48, 49, 50, 51, 52, 53, 54, 55, 56, 57, 58, 59, 60, 110, 111, 112, 113, 114, 115, 116, 117, 118, 119, 120, 121, 122, 123, 124, 125, 126, 127, 128, 129, 130, 131, 132, 133, 134, 135, 136, 137, 138, 139, 140, 141, 142, 143, 144, 145, 146, 147, 148, 149, 150, 151, 152, 153, 154, 155, 156, 157, 158, 159, 160, 161, 162, 163, 164, 165, 166, 167, 168, 169, 170, 171, 172, 173] rfl (by decide +kernel)
set_option maxRecDepth 20000 in
theorem gX13_village_X13_opens : GoodIn wsX13_village (wsV RX13 239 RX13 yX13_opens wsX13_opens) := goodIn_app (goodIn_of _ (by decide +kernel)) ggX13_village_X13_opens
set_option maxRecDepth 20000 in
theorem ggX13_village_X13_isGood : GoodIn wsX13_village wsX13_isGood := goodIn_r _ [64, 10, 110, 111, 112, 113, 114, 115, 116, 117, 118, 119, 120, 121, 122, 123, 124, 125, 126, 127, 128, 129, 130, 131, 132, 133, 134, 135, 136, 137, 138, 139, 140, 141, 142, 143, 144, 145, 146, 147, 148, 149, 150, 151, 152, 153, 154, 155, 156, 157, 158, 159, 160, 161, 162, 163, 164, 165, 166, 167, 168, 169, 170, 171, 172, 173] rfl (by decide +kernel)
set_option maxRecDepth 20000 in
theorem gX13_village_X13_isGood : GoodIn wsX13_village (wsV RX13 191 RX13 yX13_isGood wsX13_isGood) := goodIn_app (goodIn_of _ (by decide +kernel)) ggX13_village_X13_isGood
set_option maxRecDepth 20000 in
theorem ggX13_village_X13_line : GoodIn wsX13_village wsX13_line := goodIn_r _ [68, 3, 14, 6, 16, 4, 18, 20, 22, 24, 7, 5, 8, 69, 70, 71, 32, 72, 49, 46, 73, 74, 75, 76, 77, 78, 79, 80, 81, 82, 83, 10, 45, 38, 61, 62, 63, 64, 41, 42, 43, 44, 40, 39, 47, 48, 50, 51, 52, 53, 54, 55, 56, 57, 58, 59, 60, 84, 85, 86, 87, 88, 89, 90, 91, 92, 93, 94, 95, 96, 97, 98, 99, 110, 111, 112, 113, 114, 115, 116, 117, 118, 119, 120, 121, 122, 123, 124, 125, 126, 127, 128, 129, 130, 131, 132, 133, 134, 135, 136, 137, 138, 139, 140, 141, 142, 143, 144, 145, 146, 147, 148, 149, 150, 151, 152, 153, 154, 155, 156, 157, 158, 159, 160, 161, 162, 163, 164, 165, 166, 167, 168, 169, 170, 171, 172, 173] rfl (by decide +kernel)
set_option maxRecDepth 20000 in
theorem gX13_village_X13_line : GoodIn wsX13_village (wsV RX13 242 RX13 yX13_line wsX13_line) := goodIn_app (goodIn_of _ (by decide +kernel)) ggX13_village_X13_line
set_option maxRecDepth 20000 in
theorem ggX13_village_X13_copies : GoodIn wsX13_village wsX13_copies := goodIn_r _ [103] rfl (by decide +kernel)
set_option maxRecDepth 20000 in
theorem gX13_village_X13_copies : GoodIn wsX13_village (wsV RX13 254 RX13 yX13_copies wsX13_copies) := goodIn_app (goodIn_of _ (by decide +kernel)) ggX13_village_X13_copies
set_option maxRecDepth 20000 in
theorem ggX13_village_X13_clears : GoodIn wsX13_village wsX13_clears := goodIn_r _ [107, 108, 109, 110, 111, 112, 113, 114, 115, 116, 117, 118, 119, 120, 121, 122, 123, 124, 125, 126, 127, 128, 129, 130, 131, 132, 133, 134, 135, 136, 137, 138, 139, 140, 141, 142, 143, 144, 145, 146, 147, 148, 149, 150, 151, 152, 153, 154, 155, 156, 157, 158, 159, 160, 161, 162, 163, 164, 165, 166, 167, 168, 169, 170, 171, 172, 173] rfl (by decide +kernel)
set_option maxRecDepth 20000 in
theorem gX13_village_X13_clears : GoodIn wsX13_village (wsV RX13 258 RX13 yX13_clears wsX13_clears) := goodIn_app (goodIn_of _ (by decide +kernel)) ggX13_village_X13_clears
set_option maxRecDepth 20000 in
theorem ggX13_readsDay_X13_is : GoodIn wsX13_readsDay wsX13_is := goodIn_r _ [10, 5, 11, 12, 13, 14, 9, 15, 16, 17, 18, 19, 66, 67, 68, 69, 70, 71, 72, 73, 74, 75, 76, 77, 78, 79, 80, 81, 82, 83, 84, 85, 86, 87, 88, 89, 90, 91, 92, 93, 94, 95, 96, 97, 98, 99, 100, 101, 102, 103, 104, 105, 106, 107, 108, 109, 110, 111, 112, 113, 114, 115, 116, 117, 118, 119, 120, 121, 122, 123, 124, 125, 126, 127, 128, 129] rfl (by decide +kernel)
set_option maxRecDepth 20000 in
theorem gX13_readsDay_X13_is : GoodIn wsX13_readsDay (wsV RX13 201 RX13 yX13_is wsX13_is) := goodIn_app (goodIn_of _ (by decide +kernel)) ggX13_readsDay_X13_is
set_option maxRecDepth 20000 in
theorem ggX13_readsDay_X13_need : GoodIn wsX13_readsDay wsX13_need := goodIn_r _ [23, 24, 25, 26, 9, 27, 28, 29, 30, 31, 32, 33, 34, 35, 12, 36, 5, 37, 11, 38, 39, 40, 41, 42, 43, 44, 45, 46, 47, 48, 49, 50, 51, 52, 53, 66, 67, 68, 69, 70, 71, 72, 73, 74, 75, 76, 77, 78, 79, 80, 81, 82, 83, 84, 85, 86, 87, 88, 89, 90, 91, 92, 93, 94, 95, 96, 97, 98, 99, 100, 101, 102, 103, 104, 105, 106, 107, 108, 109, 110, 111, 112, 113, 114, 115, 116, 117, 118, 119, 120, 121, 122, 123, 124, 125, 126, 127, 128, 129] rfl (by decide +kernel)
set_option maxRecDepth 20000 in
theorem gX13_readsDay_X13_need : GoodIn wsX13_readsDay (wsV RX13 231 RX13 yX13_need wsX13_need) := goodIn_app (goodIn_of _ (by decide +kernel)) ggX13_readsDay_X13_need
set_option maxRecDepth 20000 in
theorem ggX13_readsDay_X13_among : GoodIn wsX13_readsDay wsX13_among := goodIn_r _ [57, 5, 11, 36, 24, 25, 26, 9, 27, 28, 49, 50, 51, 52, 35, 53, 29, 30, 31, 32, 33, 34, 12, 37, 38, 39, 40, 41, 42, 43, 44, 45, 46, 47, 48, 66, 67, 68, 69, 70, 71, 72, 73, 74, 75, 76, 77, 78, 79, 80, 81, 82, 83, 84, 85, 86, 87, 88, 89, 90, 91, 92, 93, 94, 95, 96, 97, 98, 99, 100, 101, 102, 103, 104, 105, 106, 107, 108, 109, 110, 111, 112, 113, 114, 115, 116, 117, 118, 119, 120, 121, 122, 123, 124, 125, 126, 127, 128, 129] rfl (by decide +kernel)
set_option maxRecDepth 20000 in
theorem gX13_readsDay_X13_among : GoodIn wsX13_readsDay (wsV RX13 217 RX13 yX13_among wsX13_among) := goodIn_app (goodIn_of _ (by decide +kernel)) ggX13_readsDay_X13_among
set_option maxRecDepth 20000 in
theorem ggX13_readsDay_X13_figures : GoodIn wsX13_readsDay wsX13_figures := goodIn_r _ [61, 5, 11, 37, 24, 25, 26, 9, 27, 28, 49, 50, 51, 52, 35, 53, 29, 30, 31, 32, 33, 34, 12, 36, 38, 39, 40, 41, 42, 43, 44, 45, 46, 47, 48, 66, 67, 68, 69, 70, 71, 72, 73, 74, 75, 76, 77, 78, 79, 80, 81, 82, 83, 84, 85, 86, 87, 88, 89, 90, 91, 92, 93, 94, 95, 96, 97, 98, 99, 100, 101, 102, 103, 104, 105, 106, 107, 108, 109, 110, 111, 112, 113, 114, 115, 116, 117, 118, 119, 120, 121, 122, 123, 124, 125, 126, 127, 128, 129] rfl (by decide +kernel)
set_option maxRecDepth 20000 in
theorem gX13_readsDay_X13_figures : GoodIn wsX13_readsDay (wsV RX13 220 RX13 yX13_figures wsX13_figures) := goodIn_app (goodIn_of _ (by decide +kernel)) ggX13_readsDay_X13_figures
set_option maxRecDepth 20000 in
theorem ggX13_readsDay_X13_number : GoodIn wsX13_readsDay wsX13_number := goodIn_r _ [65, 5, 11, 36, 24, 25, 26, 9, 27, 28, 49, 50, 51, 52, 35, 53, 29, 30, 31, 32, 33, 34, 12, 37, 38, 39, 40, 41, 42, 43, 44, 45, 46, 47, 48, 66, 67, 68, 69, 70, 71, 72, 73, 74, 75, 76, 77, 78, 79, 80, 81, 82, 83, 84, 85, 86, 87, 88, 89, 90, 91, 92, 93, 94, 95, 96, 97, 98, 99, 100, 101, 102, 103, 104, 105, 106, 107, 108, 109, 110, 111, 112, 113, 114, 115, 116, 117, 118, 119, 120, 121, 122, 123, 124, 125, 126, 127, 128, 129] rfl (by decide +kernel)
set_option maxRecDepth 20000 in
theorem gX13_readsDay_X13_number : GoodIn wsX13_readsDay (wsV RX13 210 RX13 yX13_number wsX13_number) := goodIn_app (goodIn_of _ (by decide +kernel)) ggX13_readsDay_X13_number
set_option maxRecDepth 20000 in
theorem ggX13_readsDay_X13_isGood : GoodIn wsX13_readsDay wsX13_isGood := goodIn_r _ [27, 28, 66, 67, 68, 69, 70, 71, 72, 73, 74, 75, 76, 77, 78, 79, 80, 81, 82, 83, 84, 85, 86, 87, 88, 89, 90, 91, 92, 93, 94, 95, 96, 97, 98, 99, 100, 101, 102, 103, 104, 105, 106, 107, 108, 109, 110, 111, 112, 113, 114, 115, 116, 117, 118, 119, 120, 121, 122, 123, 124, 125, 126, 127, 128, 129] rfl (by decide +kernel)
set_option maxRecDepth 20000 in
theorem gX13_readsDay_X13_isGood : GoodIn wsX13_readsDay (wsV RX13 191 RX13 yX13_isGood wsX13_isGood) := goodIn_app (goodIn_of _ (by decide +kernel)) ggX13_readsDay_X13_isGood
set_option maxRecDepth 20000 in
theorem ggX13_does_X13_freeDoor : GoodIn wsX13_does wsX13_freeDoor := goodIn_r _ [18, 8, 35, 36, 37, 38, 39, 40, 41, 42, 43, 44, 45, 46, 47, 48, 49, 50, 51, 52, 53, 54, 55, 56, 57, 58, 59, 60, 61, 62, 63, 64, 65, 66, 67, 68, 69, 70, 71, 72, 73, 74, 75, 76, 77, 78, 79, 80, 81, 82, 83, 84, 85, 86, 87, 88, 89, 90, 91, 92, 93, 94, 95, 96, 97, 98] rfl (by decide +kernel)
set_option maxRecDepth 20000 in
theorem gX13_does_X13_freeDoor : GoodIn wsX13_does (wsV RX13 270 RX13 yX13_freeDoor wsX13_freeDoor) := goodIn_app (goodIn_of _ (by decide +kernel)) ggX13_does_X13_freeDoor
set_option maxRecDepth 20000 in
theorem ggX13_does_X13_all : GoodIn wsX13_does wsX13_all := goodIn_r _ [22, 7, 2, 35, 36, 37, 38, 39, 40, 41, 42, 43, 44, 45, 46, 47, 48, 49, 50, 51, 52, 53, 54, 55, 56, 57, 58, 59, 60, 61, 62, 63, 64, 65, 66, 67, 68, 69, 70, 71, 72, 73, 74, 75, 76, 77, 78, 79, 80, 81, 82, 83, 84, 85, 86, 87, 88, 89, 90, 91, 92, 93, 94, 95, 96, 97, 98] rfl (by decide +kernel)
set_option maxRecDepth 20000 in
theorem gX13_does_X13_all : GoodIn wsX13_does (wsV RX13 274 RX13 yX13_all wsX13_all) := goodIn_app (goodIn_of _ (by decide +kernel)) ggX13_does_X13_all
set_option maxRecDepth 20000 in
theorem ggX13_does_X13_lentBy : GoodIn wsX13_does wsX13_lentBy := goodIn_r _ [26, 4, 35, 36, 37, 38, 39, 40, 41, 42, 43, 44, 45, 46, 47, 48, 49, 50, 51, 52, 53, 54, 55, 56, 57, 58, 59, 60, 61, 62, 63, 64, 65, 66, 67, 68, 69, 70, 71, 72, 73, 74, 75, 76, 77, 78, 79, 80, 81, 82, 83, 84, 85, 86, 87, 88, 89, 90, 91, 92, 93, 94, 95, 96, 97, 98] rfl (by decide +kernel)
set_option maxRecDepth 20000 in
theorem gX13_does_X13_lentBy : GoodIn wsX13_does (wsV RX13 277 RX13 yX13_lentBy wsX13_lentBy) := goodIn_app (goodIn_of _ (by decide +kernel)) ggX13_does_X13_lentBy
set_option maxRecDepth 20000 in
theorem ggX13_does_X13_clears : GoodIn wsX13_does wsX13_clears := goodIn_r _ [30, 3, 4, 35, 36, 37, 38, 39, 40, 41, 42, 43, 44, 45, 46, 47, 48, 49, 50, 51, 52, 53, 54, 55, 56, 57, 58, 59, 60, 61, 62, 63, 64, 65, 66, 67, 68, 69, 70, 71, 72, 73, 74, 75, 76, 77, 78, 79, 80, 81, 82, 83, 84, 85, 86, 87, 88, 89, 90, 91, 92, 93, 94, 95, 96, 97, 98] rfl (by decide +kernel)
set_option maxRecDepth 20000 in
theorem gX13_does_X13_clears : GoodIn wsX13_does (wsV RX13 258 RX13 yX13_clears wsX13_clears) := goodIn_app (goodIn_of _ (by decide +kernel)) ggX13_does_X13_clears
set_option maxRecDepth 20000 in
theorem ggX13_does_X13_isSwap : GoodIn wsX13_does wsX13_isSwap := goodIn_r _ [34, 8, 9, 10, 35, 36, 37, 38, 39, 40, 41, 42, 43, 44, 45, 46, 47, 48, 49, 50, 51, 52, 53, 54, 55, 56, 57, 58, 59, 60, 61, 62, 63, 64, 65, 66, 67, 68, 69, 70, 71, 72, 73, 74, 75, 76, 77, 78, 79, 80, 81, 82, 83, 84, 85, 86, 87, 88, 89, 90, 91, 92, 93, 94, 95, 96, 97, 98] rfl (by decide +kernel)
set_option maxRecDepth 20000 in
theorem gX13_does_X13_isSwap : GoodIn wsX13_does (wsV RX13 280 RX13 yX13_isSwap wsX13_isSwap) := goodIn_app (goodIn_of _ (by decide +kernel)) ggX13_does_X13_isSwap
set_option maxRecDepth 20000 in
theorem ggX13_days_X13_right : GoodIn wsX13_days wsX13_right := goodIn_r _ [11, 1, 115, 116, 117, 118, 119, 120, 121, 122, 123, 124, 125, 126, 127, 128, 129, 130, 131, 132, 133, 134, 135, 136, 137, 138, 139, 140, 141, 142, 143, 144, 145, 146, 147, 148, 149, 150, 151, 152, 153, 154, 155, 156, 157, 158, 159, 160, 161, 162, 163, 164, 165, 166, 167, 168, 169, 170, 171, 172, 173, 174, 175, 176, 177, 178] rfl (by decide +kernel)
set_option maxRecDepth 20000 in
theorem gX13_days_X13_right : GoodIn wsX13_days (wsV RX13 235 RX13 yX13_right wsX13_right) := goodIn_app (goodIn_of _ (by decide +kernel)) ggX13_days_X13_right
set_option maxRecDepth 20000 in
theorem ggX13_days_X13_opens : GoodIn wsX13_days wsX13_opens := goodIn_r _ [15, 2, 16, 6, 17, 18, 19, 20, 21, 10, 22, 23, 24, 25, 4, 26, 27, 28, 29, 30, 31, 32, 33, 34, 35, 36, 37, 38, 115, 116, 117, 118, 119, 120, 121, 122, 123, 124, 125, 126, 127, 128, 129, 130, 131, 132, 133, 134, 135, 136, 137, 138, 139, 140, 141, 142, 143, 144, 145, 146, 147, 148, 149, 150, 151, 152, 153, 154, 155, 156, 157, 158, 159, 160, 161, 162, 163, 164, 165, 166, 167, 168, 169, 170, 171, 172, 173, 174, 175, 176, 177, 178] rfl (by decide +kernel)
set_option maxRecDepth 20000 in
theorem gX13_days_X13_opens : GoodIn wsX13_days (wsV RX13 239 RX13 yX13_opens wsX13_opens) := goodIn_app (goodIn_of _ (by decide +kernel)) ggX13_days_X13_opens
set_option maxRecDepth 20000 in
theorem ggX13_days_X13_isGood : GoodIn wsX13_days wsX13_isGood := goodIn_r _ [42, 6, 115, 116, 117, 118, 119, 120, 121, 122, 123, 124, 125, 126, 127, 128, 129, 130, 131, 132, 133, 134, 135, 136, 137, 138, 139, 140, 141, 142, 143, 144, 145, 146, 147, 148, 149, 150, 151, 152, 153, 154, 155, 156, 157, 158, 159, 160, 161, 162, 163, 164, 165, 166, 167, 168, 169, 170, 171, 172, 173, 174, 175, 176, 177, 178] rfl (by decide +kernel)
set_option maxRecDepth 20000 in
theorem gX13_days_X13_isGood : GoodIn wsX13_days (wsV RX13 191 RX13 yX13_isGood wsX13_isGood) := goodIn_app (goodIn_of _ (by decide +kernel)) ggX13_days_X13_isGood
set_option maxRecDepth 20000 in
theorem ggX13_days_X13_readsDay : GoodIn wsX13_days wsX13_readsDay := goodIn_r _ [46, 3, 47, 48, 49, 4, 50, 51, 52, 10, 53, 27, 24, 54, 55, 56, 57, 58, 59, 60, 61, 62, 63, 64, 39, 40, 41, 42, 6, 19, 20, 21, 22, 18, 17, 23, 25, 26, 28, 29, 30, 31, 32, 33, 34, 35, 36, 37, 38, 65, 66, 67, 68, 16, 69, 70, 71, 72, 73, 74, 75, 76, 77, 78, 79, 80, 115, 116, 117, 118, 119, 120, 121, 122, 123, 124, 125, 126, 127, 128, 129, 130, 131, 132, 133, 134, 135, 136, 137, 138, 139, 140, 141, 142, 143, 144, 145, 146, 147, 148, 149, 150, 151, 152, 153, 154, 155, 156, 157, 158, 159, 160, 161, 162, 163, 164, 165, 166, 167, 168, 169, 170, 171, 172, 173, 174, 175, 176, 177, 178] rfl (by decide +kernel)
set_option maxRecDepth 20000 in
theorem gX13_days_X13_readsDay : GoodIn wsX13_days (wsV RX13 284 RX13 yX13_readsDay wsX13_readsDay) := goodIn_app (goodIn_of _ (by decide +kernel)) ggX13_days_X13_readsDay
set_option maxRecDepth 20000 in
theorem ggX13_days_X13_does : GoodIn wsX13_days wsX13_does := goodIn_r _ [84, 47, 85, 86, 87, 88, 89, 48, 90, 91, 92, 93, 94, 49, 95, 96, 97, 10, 98, 99, 100, 101, 102, 103, 104, 105, 106, 107, 108, 109, 110, 111, 112, 113, 114, 115, 116, 117, 118, 119, 120, 121, 122, 123, 124, 125, 126, 127, 128, 129, 130, 131, 132, 133, 134, 135, 136, 137, 138, 139, 140, 141, 142, 143, 144, 145, 146, 147, 148, 149, 150, 151, 152, 153, 154, 155, 156, 157, 158, 159, 160, 161, 162, 163, 164, 165, 166, 167, 168, 169, 170, 171, 172, 173, 174, 175, 176, 177, 178] rfl (by decide +kernel)
set_option maxRecDepth 20000 in
theorem gX13_days_X13_does : GoodIn wsX13_days (wsV RX13 287 RX13 yX13_does wsX13_does) := goodIn_app (goodIn_of _ (by decide +kernel)) ggX13_days_X13_does
set_option maxRecDepth 20000 in
theorem ggX13_isOwner_X13_right : GoodIn wsX13_isOwner wsX13_right := goodIn_r _ [6, 7, 8, 9, 10, 11, 12, 13, 14, 15, 16, 17, 18, 19, 20, 21, 22, 23, 24, 25, 26, 27, 28, 29, 30, 31, 32, 33, 34, 35, 36, 37, 38, 39, 40, 41, 42, 43, 44, 45, 46, 47, 48, 49, 50, 51, 52, 53, 54, 55, 56, 57, 58, 59, 60, 61, 62, 63, 64, 65, 66, 67, 68, 69, 70, 71] rfl (by decide +kernel)
set_option maxRecDepth 20000 in
theorem gX13_isOwner_X13_right : GoodIn wsX13_isOwner (wsV RX13 235 RX13 yX13_right wsX13_right) := goodIn_app (goodIn_of _ (by decide +kernel)) ggX13_isOwner_X13_right
set_option maxRecDepth 20000 in
theorem ggX13_isDoor_X13_right : GoodIn wsX13_isDoor wsX13_right := goodIn_r _ [6, 7, 8, 9, 10, 11, 12, 13, 14, 15, 16, 17, 18, 19, 20, 21, 22, 23, 24, 25, 26, 27, 28, 29, 30, 31, 32, 33, 34, 35, 36, 37, 38, 39, 40, 41, 42, 43, 44, 45, 46, 47, 48, 49, 50, 51, 52, 53, 54, 55, 56, 57, 58, 59, 60, 61, 62, 63, 64, 65, 66, 67, 68, 69, 70, 71] rfl (by decide +kernel)
set_option maxRecDepth 20000 in
theorem gX13_isDoor_X13_right : GoodIn wsX13_isDoor (wsV RX13 235 RX13 yX13_right wsX13_right) := goodIn_app (goodIn_of _ (by decide +kernel)) ggX13_isDoor_X13_right
set_option maxRecDepth 20000 in
theorem ggX13_isBase_X13_within : GoodIn wsX13_isBase wsX13_within := goodIn_r _ [4] rfl (by decide +kernel)
set_option maxRecDepth 20000 in
theorem gX13_isBase_X13_within : GoodIn wsX13_isBase (va_wsS RX13 290 yX13_within wsX13_within) := goodIn_app (goodIn_of _ (by decide +kernel)) ggX13_isBase_X13_within
set_option maxRecDepth 20000 in
theorem ggX13_isBase_X13_right : GoodIn wsX13_isBase wsX13_right := goodIn_r _ [8, 9, 10, 11, 12, 13, 14, 15, 16, 17, 18, 19, 20, 21, 22, 23, 24, 25, 26, 27, 28, 29, 30, 31, 32, 33, 34, 35, 36, 37, 38, 39, 40, 41, 42, 43, 44, 45, 46, 47, 48, 49, 50, 51, 52, 53, 54, 55, 56, 57, 58, 59, 60, 61, 62, 63, 64, 65, 66, 67, 68, 69, 70, 71, 72, 73] rfl (by decide +kernel)
set_option maxRecDepth 20000 in
theorem gX13_isBase_X13_right : GoodIn wsX13_isBase (wsV RX13 235 RX13 yX13_right wsX13_right) := goodIn_app (goodIn_of _ (by decide +kernel)) ggX13_isBase_X13_right
set_option maxRecDepth 20000 in
theorem ggX13_isSpan_X13_right : GoodIn wsX13_isSpan wsX13_right := goodIn_r _ [5, 6, 7, 8, 9, 10, 11, 12, 13, 14, 15, 16, 17, 18, 19, 20, 21, 22, 23, 24, 25, 26, 27, 28, 29, 30, 31, 32, 33, 34, 35, 36, 37, 38, 39, 40, 41, 42, 43, 44, 45, 46, 47, 48, 49, 50, 51, 52, 53, 54, 55, 56, 57, 58, 59, 60, 61, 62, 63, 64, 65, 66, 67, 68, 69, 70] rfl (by decide +kernel)
set_option maxRecDepth 20000 in
theorem gX13_isSpan_X13_right : GoodIn wsX13_isSpan (wsV RX13 235 RX13 yX13_right wsX13_right) := goodIn_app (goodIn_of _ (by decide +kernel)) ggX13_isSpan_X13_right
set_option maxRecDepth 20000 in
theorem ggX13_count_X13_within : GoodIn wsX13_count wsX13_within := goodIn_r _ [12] rfl (by decide +kernel)
set_option maxRecDepth 20000 in
theorem gX13_count_X13_within : GoodIn wsX13_count (va_wsS RX13 290 yX13_within wsX13_within) := goodIn_app (goodIn_of _ (by decide +kernel)) ggX13_count_X13_within
set_option maxRecDepth 20000 in
theorem ggX13_count_X13_right : GoodIn wsX13_count wsX13_right := goodIn_r _ [16, 1, 22, 23, 24, 25, 26, 27, 28, 29, 30, 31, 32, 33, 34, 35, 36, 37, 38, 39, 40, 41, 42, 43, 44, 45, 46, 47, 48, 49, 50, 51, 52, 53, 54, 55, 56, 57, 58, 59, 60, 61, 62, 63, 64, 65, 66, 67, 68, 69, 70, 71, 72, 73, 74, 75, 76, 77, 78, 79, 80, 81, 82, 83, 84, 85] rfl (by decide +kernel)
set_option maxRecDepth 20000 in
theorem gX13_count_X13_right : GoodIn wsX13_count (wsV RX13 235 RX13 yX13_right wsX13_right) := goodIn_app (goodIn_of _ (by decide +kernel)) ggX13_count_X13_right
set_option maxRecDepth 20000 in
theorem ggX13_count_X13_all : GoodIn wsX13_count wsX13_all := goodIn_r _ [20, 3, 21, 22, 23, 24, 25, 26, 27, 28, 29, 30, 31, 32, 33, 34, 35, 36, 37, 38, 39, 40, 41, 42, 43, 44, 45, 46, 47, 48, 49, 50, 51, 52, 53, 54, 55, 56, 57, 58, 59, 60, 61, 62, 63, 64, 65, 66, 67, 68, 69, 70, 71, 72, 73, 74, 75, 76, 77, 78, 79, 80, 81, 82, 83, 84, 85] rfl (by decide +kernel)
set_option maxRecDepth 20000 in
theorem gX13_count_X13_all : GoodIn wsX13_count (wsV RX13 274 RX13 yX13_all wsX13_all) := goodIn_app (goodIn_of _ (by decide +kernel)) ggX13_count_X13_all
set_option maxRecDepth 20000 in
theorem ggX13_lay_X13_worthOf : GoodIn wsX13_lay wsX13_worthOf := goodIn_r _ [7, 8, 9, 10, 11, 12, 13, 14, 15, 16, 17, 18, 19, 20, 21, 22, 23, 24, 25, 26, 27, 28, 29, 30, 31, 32, 33, 34, 35, 36, 37, 38, 39, 40, 41, 42, 43, 44, 45, 46, 47, 48, 49, 50, 51, 52, 53, 54, 55, 56, 57, 58, 59, 60, 61, 62, 63, 64, 65, 66, 67, 68, 69, 70, 71, 72, 73, 74] rfl (by decide +kernel)
set_option maxRecDepth 20000 in
theorem gX13_lay_X13_worthOf : GoodIn wsX13_lay (wsV RX13 294 RX13 yX13_worthOf wsX13_worthOf) := goodIn_app (goodIn_of _ (by decide +kernel)) ggX13_lay_X13_worthOf
set_option maxRecDepth 20000 in
theorem ggX13_net_X13_owedTo : GoodIn wsX13_net wsX13_owedTo := goodIn_r _ [5, 6, 7, 8, 14, 15, 16, 17, 18, 19, 20, 21, 22, 23, 24, 25, 26, 27, 28, 29, 30, 31, 32, 33, 34, 35, 36, 37, 38, 39, 40, 41, 42, 43, 44, 45, 46, 47, 48, 49, 50, 51, 52, 53, 54, 55, 56, 57, 58, 59, 60, 61, 62, 63, 64, 65, 66, 67, 68, 69, 70, 71, 72, 73, 74, 75, 76, 77] rfl (by decide +kernel)
set_option maxRecDepth 20000 in
theorem gX13_net_X13_owedTo : GoodIn wsX13_net (wsV RX13 297 RX13 yX13_owedTo wsX13_owedTo) := goodIn_app (goodIn_of _ (by decide +kernel)) ggX13_net_X13_owedTo
set_option maxRecDepth 20000 in
theorem ggX13_net_X13_oweBy : GoodIn wsX13_net wsX13_oweBy := goodIn_r _ [12, 6, 13, 8, 14, 15, 16, 17, 18, 19, 20, 21, 22, 23, 24, 25, 26, 27, 28, 29, 30, 31, 32, 33, 34, 35, 36, 37, 38, 39, 40, 41, 42, 43, 44, 45, 46, 47, 48, 49, 50, 51, 52, 53, 54, 55, 56, 57, 58, 59, 60, 61, 62, 63, 64, 65, 66, 67, 68, 69, 70, 71, 72, 73, 74, 75, 76, 77] rfl (by decide +kernel)
set_option maxRecDepth 20000 in
theorem gX13_net_X13_oweBy : GoodIn wsX13_net (wsV RX13 300 RX13 yX13_oweBy wsX13_oweBy) := goodIn_app (goodIn_of _ (by decide +kernel)) ggX13_net_X13_oweBy
set_option maxRecDepth 20000 in
theorem ggX13_owner_X13_isOwner : GoodIn wsX13_owner wsX13_isOwner := goodIn_r _ [11, 12, 13, 14, 15, 10, 16, 1, 51, 52, 53, 54, 55, 56, 57, 58, 59, 60, 61, 62, 63, 64, 65, 66, 67, 68, 69, 70, 71, 72, 73, 74, 75, 76, 77, 78, 79, 80, 81, 82, 83, 84, 85, 86, 87, 88, 89, 90, 91, 92, 93, 94, 95, 96, 97, 98, 99, 100, 101, 102, 103, 104, 105, 106, 107, 108, 109, 110, 111, 112, 113, 114] rfl (by decide +kernel)
set_option maxRecDepth 20000 in
theorem gX13_owner_X13_isOwner : GoodIn wsX13_owner (wsV RX13 303 RX13 yX13_isOwner wsX13_isOwner) := goodIn_app (goodIn_of _ (by decide +kernel)) ggX13_owner_X13_isOwner
set_option maxRecDepth 20000 in
theorem ggX13_owner_X13_within : GoodIn wsX13_owner wsX13_within := goodIn_r _ [19] rfl (by decide +kernel)
set_option maxRecDepth 20000 in
theorem gX13_owner_X13_within : GoodIn wsX13_owner (va_wsS RX13 290 yX13_within wsX13_within) := goodIn_app (goodIn_of _ (by decide +kernel)) ggX13_owner_X13_within
set_option maxRecDepth 20000 in
theorem ggX13_owner_X13_right : GoodIn wsX13_owner wsX13_right := goodIn_r _ [16, 1, 51, 52, 53, 54, 55, 56, 57, 58, 59, 60, 61, 62, 63, 64, 65, 66, 67, 68, 69, 70, 71, 72, 73, 74, 75, 76, 77, 78, 79, 80, 81, 82, 83, 84, 85, 86, 87, 88, 89, 90, 91, 92, 93, 94, 95, 96, 97, 98, 99, 100, 101, 102, 103, 104, 105, 106, 107, 108, 109, 110, 111, 112, 113, 114] rfl (by decide +kernel)
set_option maxRecDepth 20000 in
theorem gX13_owner_X13_right : GoodIn wsX13_owner (wsV RX13 235 RX13 yX13_right wsX13_right) := goodIn_app (goodIn_of _ (by decide +kernel)) ggX13_owner_X13_right
set_option maxRecDepth 20000 in
theorem ggX13_owner_X13_lay : GoodIn wsX13_owner wsX13_lay := goodIn_r _ [23, 24, 25, 26, 27, 28, 10, 29, 30, 31, 32, 51, 52, 53, 54, 55, 56, 57, 58, 59, 60, 61, 62, 63, 64, 65, 66, 67, 68, 69, 70, 71, 72, 73, 74, 75, 76, 77, 78, 79, 80, 81, 82, 83, 84, 85, 86, 87, 88, 89, 90, 91, 92, 93, 94, 95, 96, 97, 98, 99, 100, 101, 102, 103, 104, 105, 106, 107, 108, 109, 110, 111, 112, 113, 114] rfl (by decide +kernel)
set_option maxRecDepth 20000 in
theorem gX13_owner_X13_lay : GoodIn wsX13_owner (wsV RX13 306 RX13 yX13_lay wsX13_lay) := goodIn_app (goodIn_of _ (by decide +kernel)) ggX13_owner_X13_lay
set_option maxRecDepth 20000 in
theorem ggX13_owner_X13_lentBy : GoodIn wsX13_owner wsX13_lentBy := goodIn_r _ [36, 2, 51, 52, 53, 54, 55, 56, 57, 58, 59, 60, 61, 62, 63, 64, 65, 66, 67, 68, 69, 70, 71, 72, 73, 74, 75, 76, 77, 78, 79, 80, 81, 82, 83, 84, 85, 86, 87, 88, 89, 90, 91, 92, 93, 94, 95, 96, 97, 98, 99, 100, 101, 102, 103, 104, 105, 106, 107, 108, 109, 110, 111, 112, 113, 114] rfl (by decide +kernel)
set_option maxRecDepth 20000 in
theorem gX13_owner_X13_lentBy : GoodIn wsX13_owner (wsV RX13 277 RX13 yX13_lentBy wsX13_lentBy) := goodIn_app (goodIn_of _ (by decide +kernel)) ggX13_owner_X13_lentBy
set_option maxRecDepth 20000 in
theorem ggX13_owner_X13_oweBy : GoodIn wsX13_owner wsX13_oweBy := goodIn_r _ [40, 25, 41, 24, 51, 52, 53, 54, 55, 56, 57, 58, 59, 60, 61, 62, 63, 64, 65, 66, 67, 68, 69, 70, 71, 72, 73, 74, 75, 76, 77, 78, 79, 80, 81, 82, 83, 84, 85, 86, 87, 88, 89, 90, 91, 92, 93, 94, 95, 96, 97, 98, 99, 100, 101, 102, 103, 104, 105, 106, 107, 108, 109, 110, 111, 112, 113, 114] rfl (by decide +kernel)
set_option maxRecDepth 20000 in
theorem gX13_owner_X13_oweBy : GoodIn wsX13_owner (wsV RX13 300 RX13 yX13_oweBy wsX13_oweBy) := goodIn_app (goodIn_of _ (by decide +kernel)) ggX13_owner_X13_oweBy
set_option maxRecDepth 20000 in
theorem ggX13_owner_X13_owedTo : GoodIn wsX13_owner wsX13_owedTo := goodIn_r _ [45, 25, 46, 24, 51, 52, 53, 54, 55, 56, 57, 58, 59, 60, 61, 62, 63, 64, 65, 66, 67, 68, 69, 70, 71, 72, 73, 74, 75, 76, 77, 78, 79, 80, 81, 82, 83, 84, 85, 86, 87, 88, 89, 90, 91, 92, 93, 94, 95, 96, 97, 98, 99, 100, 101, 102, 103, 104, 105, 106, 107, 108, 109, 110, 111, 112, 113, 114] rfl (by decide +kernel)
set_option maxRecDepth 20000 in
theorem gX13_owner_X13_owedTo : GoodIn wsX13_owner (wsV RX13 297 RX13 yX13_owedTo wsX13_owedTo) := goodIn_app (goodIn_of _ (by decide +kernel)) ggX13_owner_X13_owedTo
set_option maxRecDepth 20000 in
theorem ggX13_owner_X13_net : GoodIn wsX13_owner wsX13_net := goodIn_r _ [50, 42, 43, 44, 10, 45, 25, 46, 24, 37, 38, 39, 40, 41, 51, 52, 53, 54, 55, 56, 57, 58, 59, 60, 61, 62, 63, 64, 65, 66, 67, 68, 69, 70, 71, 72, 73, 74, 75, 76, 77, 78, 79, 80, 81, 82, 83, 84, 85, 86, 87, 88, 89, 90, 91, 92, 93, 94, 95, 96, 97, 98, 99, 100, 101, 102, 103, 104, 105, 106, 107, 108, 109, 110, 111, 112, 113, 114] rfl (by decide +kernel)
set_option maxRecDepth 20000 in
theorem gX13_owner_X13_net : GoodIn wsX13_owner (wsV RX13 309 RX13 yX13_net wsX13_net) := goodIn_app (goodIn_of _ (by decide +kernel)) ggX13_owner_X13_net
set_option maxRecDepth 20000 in
theorem ggX13_door_X13_isDoor : GoodIn wsX13_door wsX13_isDoor := goodIn_r _ [10, 11, 12, 13, 14, 9, 15, 1, 19, 20, 21, 22, 23, 24, 25, 26, 27, 28, 29, 30, 31, 32, 33, 34, 35, 36, 37, 38, 39, 40, 41, 42, 43, 44, 45, 46, 47, 48, 49, 50, 51, 52, 53, 54, 55, 56, 57, 58, 59, 60, 61, 62, 63, 64, 65, 66, 67, 68, 69, 70, 71, 72, 73, 74, 75, 76, 77, 78, 79, 80, 81, 82] rfl (by decide +kernel)
set_option maxRecDepth 20000 in
theorem gX13_door_X13_isDoor : GoodIn wsX13_door (wsV RX13 312 RX13 yX13_isDoor wsX13_isDoor) := goodIn_app (goodIn_of _ (by decide +kernel)) ggX13_door_X13_isDoor
set_option maxRecDepth 20000 in
theorem ggX13_door_X13_within : GoodIn wsX13_door wsX13_within := goodIn_r _ [18] rfl (by decide +kernel)
set_option maxRecDepth 20000 in
theorem gX13_door_X13_within : GoodIn wsX13_door (va_wsS RX13 290 yX13_within wsX13_within) := goodIn_app (goodIn_of _ (by decide +kernel)) ggX13_door_X13_within
set_option maxRecDepth 20000 in
theorem ggX13_door_X13_right : GoodIn wsX13_door wsX13_right := goodIn_r _ [15, 1, 19, 20, 21, 22, 23, 24, 25, 26, 27, 28, 29, 30, 31, 32, 33, 34, 35, 36, 37, 38, 39, 40, 41, 42, 43, 44, 45, 46, 47, 48, 49, 50, 51, 52, 53, 54, 55, 56, 57, 58, 59, 60, 61, 62, 63, 64, 65, 66, 67, 68, 69, 70, 71, 72, 73, 74, 75, 76, 77, 78, 79, 80, 81, 82] rfl (by decide +kernel)
set_option maxRecDepth 20000 in
theorem gX13_door_X13_right : GoodIn wsX13_door (wsV RX13 235 RX13 yX13_right wsX13_right) := goodIn_app (goodIn_of _ (by decide +kernel)) ggX13_door_X13_right
set_option maxRecDepth 20000 in
theorem ggX13_worth_X13_isDoor : GoodIn wsX13_worth wsX13_isDoor := goodIn_r _ [6, 7, 8, 9, 10, 5, 11, 1, 26, 27, 28, 29, 30, 31, 32, 33, 34, 35, 36, 37, 38, 39, 40, 41, 42, 43, 44, 45, 46, 47, 48, 49, 50, 51, 52, 53, 54, 55, 56, 57, 58, 59, 60, 61, 62, 63, 64, 65, 66, 67, 68, 69, 70, 71, 72, 73, 74, 75, 76, 77, 78, 79, 80, 81, 82, 83, 84, 85, 86, 87, 88, 89] rfl (by decide +kernel)
set_option maxRecDepth 20000 in
theorem gX13_worth_X13_isDoor : GoodIn wsX13_worth (wsV RX13 312 RX13 yX13_isDoor wsX13_isDoor) := goodIn_app (goodIn_of _ (by decide +kernel)) ggX13_worth_X13_isDoor
set_option maxRecDepth 20000 in
theorem ggX13_worth_X13_isBase : GoodIn wsX13_worth wsX13_isBase := goodIn_r _ [15, 16, 17, 5, 18, 8, 9, 10, 11, 1, 26, 27, 28, 29, 30, 31, 32, 33, 34, 35, 36, 37, 38, 39, 40, 41, 42, 43, 44, 45, 46, 47, 48, 49, 50, 51, 52, 53, 54, 55, 56, 57, 58, 59, 60, 61, 62, 63, 64, 65, 66, 67, 68, 69, 70, 71, 72, 73, 74, 75, 76, 77, 78, 79, 80, 81, 82, 83, 84, 85, 86, 87, 88, 89] rfl (by decide +kernel)
set_option maxRecDepth 20000 in
theorem gX13_worth_X13_isBase : GoodIn wsX13_worth (wsV RX13 315 RX13 yX13_isBase wsX13_isBase) := goodIn_app (goodIn_of _ (by decide +kernel)) ggX13_worth_X13_isBase
set_option maxRecDepth 20000 in
theorem ggX13_worth_X13_worthOf : GoodIn wsX13_worth wsX13_worthOf := goodIn_r _ [22, 23, 24, 25, 26, 27, 28, 29, 30, 31, 32, 33, 34, 35, 36, 37, 38, 39, 40, 41, 42, 43, 44, 45, 46, 47, 48, 49, 50, 51, 52, 53, 54, 55, 56, 57, 58, 59, 60, 61, 62, 63, 64, 65, 66, 67, 68, 69, 70, 71, 72, 73, 74, 75, 76, 77, 78, 79, 80, 81, 82, 83, 84, 85, 86, 87, 88, 89] rfl (by decide +kernel)
set_option maxRecDepth 20000 in
theorem gX13_worth_X13_worthOf : GoodIn wsX13_worth (wsV RX13 294 RX13 yX13_worthOf wsX13_worthOf) := goodIn_app (goodIn_of _ (by decide +kernel)) ggX13_worth_X13_worthOf
set_option maxRecDepth 20000 in
theorem ggX13_best_X13_isOwner : GoodIn wsX13_best wsX13_isOwner := goodIn_r _ [6, 7, 8, 9, 10, 5, 11, 1, 39, 40, 41, 42, 43, 44, 45, 46, 47, 48, 49, 50, 51, 52, 53, 54, 55, 56, 57, 58, 59, 60, 61, 62, 63, 64, 65, 66, 67, 68, 69, 70, 71, 72, 73, 74, 75, 76, 77, 78, 79, 80, 81, 82, 83, 84, 85, 86, 87, 88, 89, 90, 91, 92, 93, 94, 95, 96, 97, 98, 99, 100, 101, 102] rfl (by decide +kernel)
set_option maxRecDepth 20000 in
theorem gX13_best_X13_isOwner : GoodIn wsX13_best (wsV RX13 303 RX13 yX13_isOwner wsX13_isOwner) := goodIn_app (goodIn_of _ (by decide +kernel)) ggX13_best_X13_isOwner
set_option maxRecDepth 20000 in
theorem ggX13_best_X13_right : GoodIn wsX13_best wsX13_right := goodIn_r _ [11, 1, 39, 40, 41, 42, 43, 44, 45, 46, 47, 48, 49, 50, 51, 52, 53, 54, 55, 56, 57, 58, 59, 60, 61, 62, 63, 64, 65, 66, 67, 68, 69, 70, 71, 72, 73, 74, 75, 76, 77, 78, 79, 80, 81, 82, 83, 84, 85, 86, 87, 88, 89, 90, 91, 92, 93, 94, 95, 96, 97, 98, 99, 100, 101, 102] rfl (by decide +kernel)
set_option maxRecDepth 20000 in
theorem gX13_best_X13_right : GoodIn wsX13_best (wsV RX13 235 RX13 yX13_right wsX13_right) := goodIn_app (goodIn_of _ (by decide +kernel)) ggX13_best_X13_right
set_option maxRecDepth 20000 in
theorem ggX13_best_X13_lay : GoodIn wsX13_best wsX13_lay := goodIn_r _ [15, 16, 17, 18, 19, 20, 5, 21, 22, 23, 24, 39, 40, 41, 42, 43, 44, 45, 46, 47, 48, 49, 50, 51, 52, 53, 54, 55, 56, 57, 58, 59, 60, 61, 62, 63, 64, 65, 66, 67, 68, 69, 70, 71, 72, 73, 74, 75, 76, 77, 78, 79, 80, 81, 82, 83, 84, 85, 86, 87, 88, 89, 90, 91, 92, 93, 94, 95, 96, 97, 98, 99, 100, 101, 102] rfl (by decide +kernel)
set_option maxRecDepth 20000 in
theorem gX13_best_X13_lay : GoodIn wsX13_best (wsV RX13 306 RX13 yX13_lay wsX13_lay) := goodIn_app (goodIn_of _ (by decide +kernel)) ggX13_best_X13_lay
set_option maxRecDepth 20000 in
theorem ggX13_best_X13_net : GoodIn wsX13_best wsX13_net := goodIn_r _ [28, 29, 30, 31, 5, 32, 17, 33, 16, 34, 35, 36, 37, 38, 39, 40, 41, 42, 43, 44, 45, 46, 47, 48, 49, 50, 51, 52, 53, 54, 55, 56, 57, 58, 59, 60, 61, 62, 63, 64, 65, 66, 67, 68, 69, 70, 71, 72, 73, 74, 75, 76, 77, 78, 79, 80, 81, 82, 83, 84, 85, 86, 87, 88, 89, 90, 91, 92, 93, 94, 95, 96, 97, 98, 99, 100, 101, 102] rfl (by decide +kernel)
set_option maxRecDepth 20000 in
theorem gX13_best_X13_net : GoodIn wsX13_best (wsV RX13 309 RX13 yX13_net wsX13_net) := goodIn_app (goodIn_of _ (by decide +kernel)) ggX13_best_X13_net
set_option maxRecDepth 20000 in
theorem ggX13_netsOf_X13_net : GoodIn wsX13_netsOf wsX13_net := goodIn_r _ [6, 7, 8, 9, 5, 10, 11, 12, 13, 14, 15, 16, 17, 18, 19, 20, 21, 22, 23, 24, 25, 26, 27, 28, 29, 30, 31, 32, 33, 34, 35, 36, 37, 38, 39, 40, 41, 42, 43, 44, 45, 46, 47, 48, 49, 50, 51, 52, 53, 54, 55, 56, 57, 58, 59, 60, 61, 62, 63, 64, 65, 66, 67, 68, 69, 70, 71, 72, 73, 74, 75, 76, 77, 78, 79, 80, 81, 82] rfl (by decide +kernel)
set_option maxRecDepth 20000 in
theorem gX13_netsOf_X13_net : GoodIn wsX13_netsOf (wsV RX13 309 RX13 yX13_net wsX13_net) := goodIn_app (goodIn_of _ (by decide +kernel)) ggX13_netsOf_X13_net
set_option maxRecDepth 20000 in
theorem ggX13_spanOf_X13_netsOf : GoodIn wsX13_spanOf wsX13_netsOf := goodIn_r _ [5, 6, 7, 8, 9, 4, 10, 11, 12, 13, 14, 15, 16, 17, 18, 19, 20, 21, 22, 27, 28, 29, 30, 31, 32, 33, 34, 35, 36, 37, 38, 39, 40, 41, 42, 43, 44, 45, 46, 47, 48, 49, 50, 51, 52, 53, 54, 55, 56, 57, 58, 59, 60, 61, 62, 63, 64, 65, 66, 67, 68, 69, 70, 71, 72, 73, 74, 75, 76, 77, 78, 79, 80, 81, 82, 83, 84, 85, 86, 87, 88, 89, 90] rfl (by decide +kernel)
set_option maxRecDepth 20000 in
theorem gX13_spanOf_X13_netsOf : GoodIn wsX13_spanOf (wsV RX13 318 RX13 yX13_netsOf wsX13_netsOf) := goodIn_app (goodIn_of _ (by decide +kernel)) ggX13_spanOf_X13_netsOf
set_option maxRecDepth 20000 in
theorem ggX13_spanOf_X13_spread : GoodIn wsX13_spanOf wsX13_spread := goodIn_r _ [26, 6, 27, 28, 29, 30, 31, 32, 33, 34, 35, 36, 37, 38, 39, 40, 41, 42, 43, 44, 45, 46, 47, 48, 49, 50, 51, 52, 53, 54, 55, 56, 57, 58, 59, 60, 61, 62, 63, 64, 65, 66, 67, 68, 69, 70, 71, 72, 73, 74, 75, 76, 77, 78, 79, 80, 81, 82, 83, 84, 85, 86, 87, 88, 89, 90] rfl (by decide +kernel)
set_option maxRecDepth 20000 in
theorem gX13_spanOf_X13_spread : GoodIn wsX13_spanOf (wsV RX13 321 RX13 yX13_spread wsX13_spread) := goodIn_app (goodIn_of _ (by decide +kernel)) ggX13_spanOf_X13_spread
set_option maxRecDepth 20000 in
theorem ggX13_span_X13_isOwner : GoodIn wsX13_span wsX13_isOwner := goodIn_r _ [6, 7, 8, 9, 10, 5, 11, 1, 56, 57, 58, 59, 60, 61, 62, 63, 64, 65, 66, 67, 68, 69, 70, 71, 72, 73, 74, 75, 76, 77, 78, 79, 80, 81, 82, 83, 84, 85, 86, 87, 88, 89, 90, 91, 92, 93, 94, 95, 96, 97, 98, 99, 100, 101, 102, 103, 104, 105, 106, 107, 108, 109, 110, 111, 112, 113, 114, 115, 116, 117, 118, 119] rfl (by decide +kernel)
set_option maxRecDepth 20000 in
theorem gX13_span_X13_isOwner : GoodIn wsX13_span (wsV RX13 303 RX13 yX13_isOwner wsX13_isOwner) := goodIn_app (goodIn_of _ (by decide +kernel)) ggX13_span_X13_isOwner
set_option maxRecDepth 20000 in
theorem ggX13_span_X13_isSpan : GoodIn wsX13_span wsX13_isSpan := goodIn_r _ [15, 8, 9, 10, 5, 11, 1, 56, 57, 58, 59, 60, 61, 62, 63, 64, 65, 66, 67, 68, 69, 70, 71, 72, 73, 74, 75, 76, 77, 78, 79, 80, 81, 82, 83, 84, 85, 86, 87, 88, 89, 90, 91, 92, 93, 94, 95, 96, 97, 98, 99, 100, 101, 102, 103, 104, 105, 106, 107, 108, 109, 110, 111, 112, 113, 114, 115, 116, 117, 118, 119] rfl (by decide +kernel)
set_option maxRecDepth 20000 in
theorem gX13_span_X13_isSpan : GoodIn wsX13_span (wsV RX13 324 RX13 yX13_isSpan wsX13_isSpan) := goodIn_app (goodIn_of _ (by decide +kernel)) ggX13_span_X13_isSpan
set_option maxRecDepth 20000 in
theorem ggX13_span_X13_lay : GoodIn wsX13_span wsX13_lay := goodIn_r _ [19, 20, 21, 22, 23, 24, 5, 25, 26, 27, 28, 56, 57, 58, 59, 60, 61, 62, 63, 64, 65, 66, 67, 68, 69, 70, 71, 72, 73, 74, 75, 76, 77, 78, 79, 80, 81, 82, 83, 84, 85, 86, 87, 88, 89, 90, 91, 92, 93, 94, 95, 96, 97, 98, 99, 100, 101, 102, 103, 104, 105, 106, 107, 108, 109, 110, 111, 112, 113, 114, 115, 116, 117, 118, 119] rfl (by decide +kernel)
set_option maxRecDepth 20000 in
theorem gX13_span_X13_lay : GoodIn wsX13_span (wsV RX13 306 RX13 yX13_lay wsX13_lay) := goodIn_app (goodIn_of _ (by decide +kernel)) ggX13_span_X13_lay
set_option maxRecDepth 20000 in
theorem ggX13_span_X13_spanOf : GoodIn wsX13_span wsX13_spanOf := goodIn_r _ [32, 33, 34, 35, 5, 36, 37, 38, 39, 40, 41, 42, 43, 44, 45, 21, 46, 20, 47, 48, 49, 50, 51, 52, 53, 54, 55, 56, 57, 58, 59, 60, 61, 62, 63, 64, 65, 66, 67, 68, 69, 70, 71, 72, 73, 74, 75, 76, 77, 78, 79, 80, 81, 82, 83, 84, 85, 86, 87, 88, 89, 90, 91, 92, 93, 94, 95, 96, 97, 98, 99, 100, 101, 102, 103, 104, 105, 106, 107, 108, 109, 110, 111, 112, 113, 114, 115, 116, 117, 118, 119] rfl (by decide +kernel)
set_option maxRecDepth 20000 in
theorem gX13_span_X13_spanOf : GoodIn wsX13_span (wsV RX13 327 RX13 yX13_spanOf wsX13_spanOf) := goodIn_app (goodIn_of _ (by decide +kernel)) ggX13_span_X13_spanOf
set_option maxRecDepth 20000 in
theorem ggX13_countsUp_X13_most : GoodIn wsX13_countsUp wsX13_most := goodIn_r _ [7, 8, 9, 10, 11, 12, 13, 14, 15, 16, 17, 18, 19, 20, 21, 22, 23, 24, 25, 26, 27, 28, 29, 30, 31, 32, 33, 34, 35, 36, 37, 38, 39, 40, 41, 42, 43, 44, 45, 46, 47, 48, 49, 50, 51, 52, 53, 54, 55, 56, 57, 58, 59, 60, 61, 62, 63, 64, 65, 66, 67, 68, 69, 70, 71, 72, 73] rfl (by decide +kernel)
set_option maxRecDepth 20000 in
theorem gX13_countsUp_X13_most : GoodIn wsX13_countsUp (wsV RX13 331 RX13 yX13_most wsX13_most) := goodIn_app (goodIn_of _ (by decide +kernel)) ggX13_countsUp_X13_most
set_option maxRecDepth 20000 in
theorem ggX13_isAtRest_X13_all : GoodIn wsX13_isAtRest wsX13_all := goodIn_r _ [8, 1, 9, 15, 16, 17, 18, 19, 20, 21, 22, 23, 24, 25, 26, 27, 28, 29, 30, 31, 32, 33, 34, 35, 36, 37, 38, 39, 40, 41, 42, 43, 44, 45, 46, 47, 48, 49, 50, 51, 52, 53, 54, 55, 56, 57, 58, 59, 60, 61, 62, 63, 64, 65, 66, 67, 68, 69, 70, 71, 72, 73, 74, 75, 76, 77, 78] rfl (by decide +kernel)
set_option maxRecDepth 20000 in
theorem gX13_isAtRest_X13_all : GoodIn wsX13_isAtRest (wsV RX13 274 RX13 yX13_all wsX13_all) := goodIn_app (goodIn_of _ (by decide +kernel)) ggX13_isAtRest_X13_all
set_option maxRecDepth 20000 in
theorem ggX13_isAtRest_X13_most : GoodIn wsX13_isAtRest wsX13_most := goodIn_r _ [13, 14, 9, 15, 16, 17, 18, 19, 20, 21, 22, 23, 24, 25, 26, 27, 28, 29, 30, 31, 32, 33, 34, 35, 36, 37, 38, 39, 40, 41, 42, 43, 44, 45, 46, 47, 48, 49, 50, 51, 52, 53, 54, 55, 56, 57, 58, 59, 60, 61, 62, 63, 64, 65, 66, 67, 68, 69, 70, 71, 72, 73, 74, 75, 76, 77, 78] rfl (by decide +kernel)
set_option maxRecDepth 20000 in
theorem gX13_isAtRest_X13_most : GoodIn wsX13_isAtRest (wsV RX13 331 RX13 yX13_most wsX13_most) := goodIn_app (goodIn_of _ (by decide +kernel)) ggX13_isAtRest_X13_most
set_option maxRecDepth 20000 in
theorem ggX13_rests_X13_isOwner : GoodIn wsX13_rests wsX13_isOwner := goodIn_r _ [10, 2, 11, 12, 13, 9, 14, 1, 64, 65, 66, 67, 68, 69, 70, 71, 72, 73, 74, 75, 76, 77, 78, 79, 80, 81, 82, 83, 84, 85, 86, 87, 88, 89, 90, 91, 92, 93, 94, 95, 96, 97, 98, 99, 100, 101, 102, 103, 104, 105, 106, 107, 108, 109, 110, 111, 112, 113, 114, 115, 116, 117, 118, 119, 120, 121, 122, 123, 124, 125, 126, 127] rfl (by decide +kernel)
set_option maxRecDepth 20000 in
theorem gX13_rests_X13_isOwner : GoodIn wsX13_rests (wsV RX13 303 RX13 yX13_isOwner wsX13_isOwner) := goodIn_app (goodIn_of _ (by decide +kernel)) ggX13_rests_X13_isOwner
set_option maxRecDepth 20000 in
theorem ggX13_rests_X13_lay : GoodIn wsX13_rests wsX13_lay := goodIn_r _ [18, 19, 20, 21, 22, 23, 9, 24, 25, 26, 27, 64, 65, 66, 67, 68, 69, 70, 71, 72, 73, 74, 75, 76, 77, 78, 79, 80, 81, 82, 83, 84, 85, 86, 87, 88, 89, 90, 91, 92, 93, 94, 95, 96, 97, 98, 99, 100, 101, 102, 103, 104, 105, 106, 107, 108, 109, 110, 111, 112, 113, 114, 115, 116, 117, 118, 119, 120, 121, 122, 123, 124, 125, 126, 127] rfl (by decide +kernel)
set_option maxRecDepth 20000 in
theorem gX13_rests_X13_lay : GoodIn wsX13_rests (wsV RX13 306 RX13 yX13_lay wsX13_lay) := goodIn_app (goodIn_of _ (by decide +kernel)) ggX13_rests_X13_lay
set_option maxRecDepth 20000 in
theorem ggX13_rests_X13_net : GoodIn wsX13_rests wsX13_net := goodIn_r _ [31, 32, 33, 34, 9, 35, 20, 36, 19, 37, 38, 39, 40, 41, 64, 65, 66, 67, 68, 69, 70, 71, 72, 73, 74, 75, 76, 77, 78, 79, 80, 81, 82, 83, 84, 85, 86, 87, 88, 89, 90, 91, 92, 93, 94, 95, 96, 97, 98, 99, 100, 101, 102, 103, 104, 105, 106, 107, 108, 109, 110, 111, 112, 113, 114, 115, 116, 117, 118, 119, 120, 121, 122, 123, 124, 125, 126, 127] rfl (by decide +kernel)
set_option maxRecDepth 20000 in
theorem gX13_rests_X13_net : GoodIn wsX13_rests (wsV RX13 309 RX13 yX13_net wsX13_net) := goodIn_app (goodIn_of _ (by decide +kernel)) ggX13_rests_X13_net
set_option maxRecDepth 20000 in
theorem ggX13_rests_X13_isAtRest : GoodIn wsX13_rests wsX13_isAtRest := goodIn_r _ [45, 2, 4, 3, 46, 47, 48, 9, 49, 50, 51, 52, 53, 54, 55, 64, 65, 66, 67, 68, 69, 70, 71, 72, 73, 74, 75, 76, 77, 78, 79, 80, 81, 82, 83, 84, 85, 86, 87, 88, 89, 90, 91, 92, 93, 94, 95, 96, 97, 98, 99, 100, 101, 102, 103, 104, 105, 106, 107, 108, 109, 110, 111, 112, 113, 114, 115, 116, 117, 118, 119, 120, 121, 122, 123, 124, 125, 126, 127] rfl (by decide +kernel)
set_option maxRecDepth 20000 in
theorem gX13_rests_X13_isAtRest : GoodIn wsX13_rests (wsV RX13 334 RX13 yX13_isAtRest wsX13_isAtRest) := goodIn_app (goodIn_of _ (by decide +kernel)) ggX13_rests_X13_isAtRest
set_option maxRecDepth 20000 in
theorem ggX13_rests_X13_copies : GoodIn wsX13_rests wsX13_copies := goodIn_r _ [59] rfl (by decide +kernel)
set_option maxRecDepth 20000 in
theorem gX13_rests_X13_copies : GoodIn wsX13_rests (wsV RX13 254 RX13 yX13_copies wsX13_copies) := goodIn_app (goodIn_of _ (by decide +kernel)) ggX13_rests_X13_copies
set_option maxRecDepth 20000 in
theorem ggX13_rests_X13_countsUp : GoodIn wsX13_rests wsX13_countsUp := goodIn_r _ [63, 2, 4, 51, 52, 53, 9, 54, 55, 50, 64, 65, 66, 67, 68, 69, 70, 71, 72, 73, 74, 75, 76, 77, 78, 79, 80, 81, 82, 83, 84, 85, 86, 87, 88, 89, 90, 91, 92, 93, 94, 95, 96, 97, 98, 99, 100, 101, 102, 103, 104, 105, 106, 107, 108, 109, 110, 111, 112, 113, 114, 115, 116, 117, 118, 119, 120, 121, 122, 123, 124, 125, 126, 127] rfl (by decide +kernel)
set_option maxRecDepth 20000 in
theorem gX13_rests_X13_countsUp : GoodIn wsX13_rests (wsV RX13 337 RX13 yX13_countsUp wsX13_countsUp) := goodIn_app (goodIn_of _ (by decide +kernel)) ggX13_rests_X13_countsUp
set_option maxRecDepth 20000 in
theorem ggX13_rests_X13_right : GoodIn wsX13_rests wsX13_right := goodIn_r _ [14, 1, 64, 65, 66, 67, 68, 69, 70, 71, 72, 73, 74, 75, 76, 77, 78, 79, 80, 81, 82, 83, 84, 85, 86, 87, 88, 89, 90, 91, 92, 93, 94, 95, 96, 97, 98, 99, 100, 101, 102, 103, 104, 105, 106, 107, 108, 109, 110, 111, 112, 113, 114, 115, 116, 117, 118, 119, 120, 121, 122, 123, 124, 125, 126, 127] rfl (by decide +kernel)
set_option maxRecDepth 20000 in
theorem gX13_rests_X13_right : GoodIn wsX13_rests (wsV RX13 235 RX13 yX13_right wsX13_right) := goodIn_app (goodIn_of _ (by decide +kernel)) ggX13_rests_X13_right
set_option maxRecDepth 20000 in
theorem ggX13_alike_X13_within : GoodIn wsX13_alike wsX13_within := goodIn_r _ [6] rfl (by decide +kernel)
set_option maxRecDepth 20000 in
theorem gX13_alike_X13_within : GoodIn wsX13_alike (va_wsS RX13 290 yX13_within wsX13_within) := goodIn_app (goodIn_of _ (by decide +kernel)) ggX13_alike_X13_within
set_option maxRecDepth 20000 in
theorem ggX13_alike_X13_right : GoodIn wsX13_alike wsX13_right := goodIn_r _ [10, 1, 11, 12, 13, 14, 15, 16, 17, 18, 19, 20, 21, 22, 23, 24, 25, 26, 27, 28, 29, 30, 31, 32, 33, 34, 35, 36, 37, 38, 39, 40, 41, 42, 43, 44, 45, 46, 47, 48, 49, 50, 51, 52, 53, 54, 55, 56, 57, 58, 59, 60, 61, 62, 63, 64, 65, 66, 67, 68, 69, 70, 71, 72, 73, 74] rfl (by decide +kernel)
set_option maxRecDepth 20000 in
theorem gX13_alike_X13_right : GoodIn wsX13_alike (wsV RX13 235 RX13 yX13_right wsX13_right) := goodIn_app (goodIn_of _ (by decide +kernel)) ggX13_alike_X13_right
set_option maxRecDepth 20000 in
theorem ggX13_hedge_X13_isOwner : GoodIn wsX13_hedge wsX13_isOwner := goodIn_r _ [11, 12, 13, 14, 15, 10, 16, 1, 55, 56, 57, 58, 59, 60, 61, 62, 63, 64, 65, 66, 67, 68, 69, 70, 71, 72, 73, 74, 75, 76, 77, 78, 79, 80, 81, 82, 83, 84, 85, 86, 87, 88, 89, 90, 91, 92, 93, 94, 95, 96, 97, 98, 99, 100, 101, 102, 103, 104, 105, 106, 107, 108, 109, 110, 111, 112, 113, 114, 115, 116, 117, 118] rfl (by decide +kernel)
set_option maxRecDepth 20000 in
theorem gX13_hedge_X13_isOwner : GoodIn wsX13_hedge (wsV RX13 303 RX13 yX13_isOwner wsX13_isOwner) := goodIn_app (goodIn_of _ (by decide +kernel)) ggX13_hedge_X13_isOwner
set_option maxRecDepth 20000 in
theorem ggX13_hedge_X13_isSpan : GoodIn wsX13_hedge wsX13_isSpan := goodIn_r _ [20, 13, 14, 15, 10, 16, 1, 55, 56, 57, 58, 59, 60, 61, 62, 63, 64, 65, 66, 67, 68, 69, 70, 71, 72, 73, 74, 75, 76, 77, 78, 79, 80, 81, 82, 83, 84, 85, 86, 87, 88, 89, 90, 91, 92, 93, 94, 95, 96, 97, 98, 99, 100, 101, 102, 103, 104, 105, 106, 107, 108, 109, 110, 111, 112, 113, 114, 115, 116, 117, 118] rfl (by decide +kernel)
set_option maxRecDepth 20000 in
theorem gX13_hedge_X13_isSpan : GoodIn wsX13_hedge (wsV RX13 324 RX13 yX13_isSpan wsX13_isSpan) := goodIn_app (goodIn_of _ (by decide +kernel)) ggX13_hedge_X13_isSpan
set_option maxRecDepth 20000 in
theorem ggX13_hedge_X13_lay : GoodIn wsX13_hedge wsX13_lay := goodIn_r _ [24, 6, 2, 25, 26, 27, 10, 28, 29, 30, 31, 55, 56, 57, 58, 59, 60, 61, 62, 63, 64, 65, 66, 67, 68, 69, 70, 71, 72, 73, 74, 75, 76, 77, 78, 79, 80, 81, 82, 83, 84, 85, 86, 87, 88, 89, 90, 91, 92, 93, 94, 95, 96, 97, 98, 99, 100, 101, 102, 103, 104, 105, 106, 107, 108, 109, 110, 111, 112, 113, 114, 115, 116, 117, 118] rfl (by decide +kernel)
set_option maxRecDepth 20000 in
theorem gX13_hedge_X13_lay : GoodIn wsX13_hedge (wsV RX13 306 RX13 yX13_lay wsX13_lay) := goodIn_app (goodIn_of _ (by decide +kernel)) ggX13_hedge_X13_lay
set_option maxRecDepth 20000 in
theorem ggX13_hedge_X13_bits : GoodIn wsX13_hedge wsX13_bits := goodIn_r _ [34] rfl (by decide +kernel)
set_option maxRecDepth 20000 in
theorem gX13_hedge_X13_bits : GoodIn wsX13_hedge (va_wsS RX13 341 yX13_bits wsX13_bits) := goodIn_app (goodIn_of _ (by decide +kernel)) ggX13_hedge_X13_bits
set_option maxRecDepth 20000 in
theorem ggX13_hedge_X13_netsOf : GoodIn wsX13_hedge wsX13_netsOf := goodIn_r _ [38, 5, 39, 40, 41, 10, 42, 43, 44, 45, 46, 2, 4, 6, 47, 48, 49, 50, 3, 55, 56, 57, 58, 59, 60, 61, 62, 63, 64, 65, 66, 67, 68, 69, 70, 71, 72, 73, 74, 75, 76, 77, 78, 79, 80, 81, 82, 83, 84, 85, 86, 87, 88, 89, 90, 91, 92, 93, 94, 95, 96, 97, 98, 99, 100, 101, 102, 103, 104, 105, 106, 107, 108, 109, 110, 111, 112, 113, 114, 115, 116, 117, 118] rfl (by decide +kernel)
set_option maxRecDepth 20000 in
theorem gX13_hedge_X13_netsOf : GoodIn wsX13_hedge (wsV RX13 318 RX13 yX13_netsOf wsX13_netsOf) := goodIn_app (goodIn_of _ (by decide +kernel)) ggX13_hedge_X13_netsOf
set_option maxRecDepth 20000 in
theorem ggX13_hedge_X13_spread : GoodIn wsX13_hedge wsX13_spread := goodIn_r _ [54, 5, 55, 56, 57, 58, 59, 60, 61, 62, 63, 64, 65, 66, 67, 68, 69, 70, 71, 72, 73, 74, 75, 76, 77, 78, 79, 80, 81, 82, 83, 84, 85, 86, 87, 88, 89, 90, 91, 92, 93, 94, 95, 96, 97, 98, 99, 100, 101, 102, 103, 104, 105, 106, 107, 108, 109, 110, 111, 112, 113, 114, 115, 116, 117, 118] rfl (by decide +kernel)
set_option maxRecDepth 20000 in
theorem gX13_hedge_X13_spread : GoodIn wsX13_hedge (wsV RX13 321 RX13 yX13_spread wsX13_spread) := goodIn_app (goodIn_of _ (by decide +kernel)) ggX13_hedge_X13_spread
set_option maxRecDepth 20000 in
theorem ggX13_isLess_X13_spanOf : GoodIn wsX13_isLess wsX13_spanOf := goodIn_r _ [5, 6, 7, 8, 4, 9, 10, 11, 12, 13, 14, 15, 16, 17, 18, 19, 20, 21, 22, 23, 24, 25, 26, 27, 28, 29, 30, 36, 37, 38, 39, 40, 41, 42, 43, 44, 45, 46, 47, 48, 49, 50, 51, 52, 53, 54, 55, 56, 57, 58, 59, 60, 61, 62, 63, 64, 65, 66, 67, 68, 69, 70, 71, 72, 73, 74, 75, 76, 77, 78, 79, 80, 81, 82, 83, 84, 85, 86, 87, 88, 89, 90, 91, 92, 93, 94, 95, 96, 97, 98, 99] rfl (by decide +kernel)
set_option maxRecDepth 20000 in
theorem gX13_isLess_X13_spanOf : GoodIn wsX13_isLess (wsV RX13 327 RX13 yX13_spanOf wsX13_spanOf) := goodIn_app (goodIn_of _ (by decide +kernel)) ggX13_isLess_X13_spanOf
set_option maxRecDepth 20000 in
theorem ggX13_isLess_X13_ahead : GoodIn wsX13_isLess wsX13_ahead := goodIn_r _ [34, 35, 36, 37, 38, 39, 40, 41, 42, 43, 44, 45, 46, 47, 48, 49, 50, 51, 52, 53, 54, 55, 56, 57, 58, 59, 60, 61, 62, 63, 64, 65, 66, 67, 68, 69, 70, 71, 72, 73, 74, 75, 76, 77, 78, 79, 80, 81, 82, 83, 84, 85, 86, 87, 88, 89, 90, 91, 92, 93, 94, 95, 96, 97, 98, 99] rfl (by decide +kernel)
set_option maxRecDepth 20000 in
theorem gX13_isLess_X13_ahead : GoodIn wsX13_isLess (wsV RX13 344 RX13 yX13_ahead wsX13_ahead) := goodIn_app (goodIn_of _ (by decide +kernel)) ggX13_isLess_X13_ahead
set_option maxRecDepth 20000 in
theorem ggX13_saferTwo_X13_isSwap : GoodIn wsX13_saferTwo wsX13_isSwap := goodIn_r _ [7, 8, 9, 1, 45, 46, 47, 48, 49, 50, 51, 52, 53, 54, 55, 56, 57, 58, 59, 60, 61, 62, 63, 64, 65, 66, 67, 68, 69, 70, 71, 72, 73, 74, 75, 76, 77, 78, 79, 80, 81, 82, 83, 84, 85, 86, 87, 88, 89, 90, 91, 92, 93, 94, 95, 96, 97, 98, 99, 100, 101, 102, 103, 104, 105, 106, 107, 108] rfl (by decide +kernel)
set_option maxRecDepth 20000 in
theorem gX13_saferTwo_X13_isSwap : GoodIn wsX13_saferTwo (wsV RX13 280 RX13 yX13_isSwap wsX13_isSwap) := goodIn_app (goodIn_of _ (by decide +kernel)) ggX13_saferTwo_X13_isSwap
set_option maxRecDepth 20000 in
theorem ggX13_saferTwo_X13_isLess : GoodIn wsX13_saferTwo wsX13_isLess := goodIn_r _ [13, 14, 15, 16, 6, 17, 18, 19, 20, 21, 22, 23, 24, 25, 26, 27, 28, 29, 30, 8, 1, 31, 32, 33, 34, 35, 9, 36, 37, 38, 39, 40, 41, 42, 43, 44, 45, 46, 47, 48, 49, 50, 51, 52, 53, 54, 55, 56, 57, 58, 59, 60, 61, 62, 63, 64, 65, 66, 67, 68, 69, 70, 71, 72, 73, 74, 75, 76, 77, 78, 79, 80, 81, 82, 83, 84, 85, 86, 87, 88, 89, 90, 91, 92, 93, 94, 95, 96, 97, 98, 99, 100, 101, 102, 103, 104, 105, 106, 107, 108] rfl (by decide +kernel)
set_option maxRecDepth 20000 in
theorem gX13_saferTwo_X13_isLess : GoodIn wsX13_saferTwo (wsV RX13 347 RX13 yX13_isLess wsX13_isLess) := goodIn_app (goodIn_of _ (by decide +kernel)) ggX13_saferTwo_X13_isLess
set_option maxRecDepth 20000 in
theorem ggX13_saferThree_X13_isLess : GoodIn wsX13_saferThree wsX13_isLess := goodIn_r _ [9, 10, 11, 12, 8, 13, 14, 15, 16, 17, 18, 19, 20, 21, 22, 23, 24, 25, 26, 1, 2, 27, 28, 29, 30, 31, 3, 32, 33, 34, 35, 36, 37, 38, 39, 40, 41, 42, 43, 44, 45, 46, 47, 48, 49, 50, 51, 52, 53, 54, 55, 56, 57, 58, 59, 60, 61, 62, 63, 64, 65, 66, 67, 68, 69, 70, 71, 72, 73, 74, 75, 76, 77, 78, 79, 80, 81, 82, 83, 84, 85, 86, 87, 88, 89, 90, 91, 92, 93, 94, 95, 96, 97, 98, 99, 100, 101, 102, 103, 104] rfl (by decide +kernel)
set_option maxRecDepth 20000 in
theorem gX13_saferThree_X13_isLess : GoodIn wsX13_saferThree (wsV RX13 347 RX13 yX13_isLess wsX13_isLess) := goodIn_app (goodIn_of _ (by decide +kernel)) ggX13_saferThree_X13_isLess
set_option maxRecDepth 20000 in
theorem ggX13_safer_X13_within : GoodIn wsX13_safer wsX13_within := goodIn_r _ [9] rfl (by decide +kernel)
set_option maxRecDepth 20000 in
theorem gX13_safer_X13_within : GoodIn wsX13_safer (va_wsS RX13 290 yX13_within wsX13_within) := goodIn_app (goodIn_of _ (by decide +kernel)) ggX13_safer_X13_within
set_option maxRecDepth 20000 in
theorem ggX13_safer_X13_right : GoodIn wsX13_safer wsX13_right := goodIn_r _ [13, 1, 81, 82, 83, 84, 85, 86, 87, 88, 89, 90, 91, 92, 93, 94, 95, 96, 97, 98, 99, 100, 101, 102, 103, 104, 105, 106, 107, 108, 109, 110, 111, 112, 113, 114, 115, 116, 117, 118, 119, 120, 121, 122, 123, 124, 125, 126, 127, 128, 129, 130, 131, 132, 133, 134, 135, 136, 137, 138, 139, 140, 141, 142, 143, 144] rfl (by decide +kernel)
set_option maxRecDepth 20000 in
theorem gX13_safer_X13_right : GoodIn wsX13_safer (wsV RX13 235 RX13 yX13_right wsX13_right) := goodIn_app (goodIn_of _ (by decide +kernel)) ggX13_safer_X13_right
set_option maxRecDepth 20000 in
theorem ggX13_safer_X13_isSpan : GoodIn wsX13_safer wsX13_isSpan := goodIn_r _ [17, 10, 11, 12, 8, 13, 1, 81, 82, 83, 84, 85, 86, 87, 88, 89, 90, 91, 92, 93, 94, 95, 96, 97, 98, 99, 100, 101, 102, 103, 104, 105, 106, 107, 108, 109, 110, 111, 112, 113, 114, 115, 116, 117, 118, 119, 120, 121, 122, 123, 124, 125, 126, 127, 128, 129, 130, 131, 132, 133, 134, 135, 136, 137, 138, 139, 140, 141, 142, 143, 144] rfl (by decide +kernel)
set_option maxRecDepth 20000 in
theorem gX13_safer_X13_isSpan : GoodIn wsX13_safer (wsV RX13 324 RX13 yX13_isSpan wsX13_isSpan) := goodIn_app (goodIn_of _ (by decide +kernel)) ggX13_safer_X13_isSpan
set_option maxRecDepth 20000 in
theorem ggX13_safer_X13_lay : GoodIn wsX13_safer wsX13_lay := goodIn_r _ [21, 22, 23, 24, 25, 26, 8, 27, 28, 29, 30, 81, 82, 83, 84, 85, 86, 87, 88, 89, 90, 91, 92, 93, 94, 95, 96, 97, 98, 99, 100, 101, 102, 103, 104, 105, 106, 107, 108, 109, 110, 111, 112, 113, 114, 115, 116, 117, 118, 119, 120, 121, 122, 123, 124, 125, 126, 127, 128, 129, 130, 131, 132, 133, 134, 135, 136, 137, 138, 139, 140, 141, 142, 143, 144] rfl (by decide +kernel)
set_option maxRecDepth 20000 in
theorem gX13_safer_X13_lay : GoodIn wsX13_safer (wsV RX13 306 RX13 yX13_lay wsX13_lay) := goodIn_app (goodIn_of _ (by decide +kernel)) ggX13_safer_X13_lay
set_option maxRecDepth 20000 in
theorem ggX13_safer_X13_spanOf : GoodIn wsX13_safer wsX13_spanOf := goodIn_r _ [34, 35, 36, 37, 8, 38, 39, 40, 41, 42, 43, 44, 45, 46, 47, 23, 4, 22, 48, 49, 50, 51, 52, 53, 54, 55, 56, 81, 82, 83, 84, 85, 86, 87, 88, 89, 90, 91, 92, 93, 94, 95, 96, 97, 98, 99, 100, 101, 102, 103, 104, 105, 106, 107, 108, 109, 110, 111, 112, 113, 114, 115, 116, 117, 118, 119, 120, 121, 122, 123, 124, 125, 126, 127, 128, 129, 130, 131, 132, 133, 134, 135, 136, 137, 138, 139, 140, 141, 142, 143, 144] rfl (by decide +kernel)
set_option maxRecDepth 20000 in
theorem gX13_safer_X13_spanOf : GoodIn wsX13_safer (wsV RX13 327 RX13 yX13_spanOf wsX13_spanOf) := goodIn_app (goodIn_of _ (by decide +kernel)) ggX13_safer_X13_spanOf
set_option maxRecDepth 20000 in
theorem ggX13_safer_X13_copies : GoodIn wsX13_safer wsX13_copies := goodIn_r _ [60] rfl (by decide +kernel)
set_option maxRecDepth 20000 in
theorem gX13_safer_X13_copies : GoodIn wsX13_safer (wsV RX13 254 RX13 yX13_copies wsX13_copies) := goodIn_app (goodIn_of _ (by decide +kernel)) ggX13_safer_X13_copies
set_option maxRecDepth 20000 in
theorem ggX13_safer_X13_saferTwo : GoodIn wsX13_safer wsX13_saferTwo := goodIn_r _ [64, 4, 5, 65, 66, 67, 8, 68, 23, 52, 69, 70, 71, 72, 31, 32, 33, 34, 35, 36, 37, 38, 39, 40, 41, 42, 43, 44, 45, 46, 47, 22, 48, 49, 50, 51, 53, 54, 55, 56, 73, 74, 75, 76, 3, 81, 82, 83, 84, 85, 86, 87, 88, 89, 90, 91, 92, 93, 94, 95, 96, 97, 98, 99, 100, 101, 102, 103, 104, 105, 106, 107, 108, 109, 110, 111, 112, 113, 114, 115, 116, 117, 118, 119, 120, 121, 122, 123, 124, 125, 126, 127, 128, 129, 130, 131, 132, 133, 134, 135, 136, 137, 138, 139, 140, 141, 142, 143, 144] rfl (by decide +kernel)
set_option maxRecDepth 20000 in
theorem gX13_safer_X13_saferTwo : GoodIn wsX13_safer (wsV RX13 350 RX13 yX13_saferTwo wsX13_saferTwo) := goodIn_app (goodIn_of _ (by decide +kernel)) ggX13_safer_X13_saferTwo
set_option maxRecDepth 20000 in
theorem ggX13_safer_X13_saferThree : GoodIn wsX13_safer wsX13_saferThree := goodIn_r _ [80, 23, 4, 52, 5, 69, 70, 71, 8, 72, 31, 32, 33, 34, 35, 36, 37, 38, 39, 40, 41, 42, 43, 44, 45, 46, 47, 22, 48, 49, 50, 51, 53, 54, 55, 56, 73, 74, 75, 76, 3, 81, 82, 83, 84, 85, 86, 87, 88, 89, 90, 91, 92, 93, 94, 95, 96, 97, 98, 99, 100, 101, 102, 103, 104, 105, 106, 107, 108, 109, 110, 111, 112, 113, 114, 115, 116, 117, 118, 119, 120, 121, 122, 123, 124, 125, 126, 127, 128, 129, 130, 131, 132, 133, 134, 135, 136, 137, 138, 139, 140, 141, 142, 143, 144] rfl (by decide +kernel)
set_option maxRecDepth 20000 in
theorem gX13_safer_X13_saferThree : GoodIn wsX13_safer (wsV RX13 354 RX13 yX13_saferThree wsX13_saferThree) := goodIn_app (goodIn_of _ (by decide +kernel)) ggX13_safer_X13_saferThree
set_option maxRecDepth 20000 in
theorem ggX13_receipt_X13_within : GoodIn wsX13_receipt wsX13_within := goodIn_r _ [9] rfl (by decide +kernel)
set_option maxRecDepth 20000 in
theorem gX13_receipt_X13_within : GoodIn wsX13_receipt (va_wsS RX13 290 yX13_within wsX13_within) := goodIn_app (goodIn_of _ (by decide +kernel)) ggX13_receipt_X13_within
set_option maxRecDepth 20000 in
theorem ggX13_chalked_X13_right : GoodIn wsX13_chalked wsX13_right := goodIn_r _ [6, 1, 26, 27, 28, 29, 30, 31, 32, 33, 34, 35, 36, 37, 38, 39, 40, 41, 42, 43, 44, 45, 46, 47, 48, 49, 50, 51, 52, 53, 54, 55, 56, 57, 58, 59, 60, 61, 62, 63, 64, 65, 66, 67, 68, 69, 70, 71, 72, 73, 74, 75, 76, 77, 78, 79, 80, 81, 82, 83, 84, 85, 86, 87, 88, 89] rfl (by decide +kernel)
set_option maxRecDepth 20000 in
theorem gX13_chalked_X13_right : GoodIn wsX13_chalked (wsV RX13 235 RX13 yX13_right wsX13_right) := goodIn_app (goodIn_of _ (by decide +kernel)) ggX13_chalked_X13_right
set_option maxRecDepth 20000 in
theorem ggX13_chalked_X13_lay : GoodIn wsX13_chalked wsX13_lay := goodIn_r _ [10, 11, 12, 13, 14, 15, 5, 16, 17, 18, 19, 26, 27, 28, 29, 30, 31, 32, 33, 34, 35, 36, 37, 38, 39, 40, 41, 42, 43, 44, 45, 46, 47, 48, 49, 50, 51, 52, 53, 54, 55, 56, 57, 58, 59, 60, 61, 62, 63, 64, 65, 66, 67, 68, 69, 70, 71, 72, 73, 74, 75, 76, 77, 78, 79, 80, 81, 82, 83, 84, 85, 86, 87, 88, 89] rfl (by decide +kernel)
set_option maxRecDepth 20000 in
theorem gX13_chalked_X13_lay : GoodIn wsX13_chalked (wsV RX13 306 RX13 yX13_lay wsX13_lay) := goodIn_app (goodIn_of _ (by decide +kernel)) ggX13_chalked_X13_lay
set_option maxRecDepth 20000 in
theorem ggX13_chalked_X13_isChalked : GoodIn wsX13_chalked wsX13_isChalked := goodIn_r _ [23, 24, 25, 11, 26, 27, 28, 29, 30, 31, 32, 33, 34, 35, 36, 37, 38, 39, 40, 41, 42, 43, 44, 45, 46, 47, 48, 49, 50, 51, 52, 53, 54, 55, 56, 57, 58, 59, 60, 61, 62, 63, 64, 65, 66, 67, 68, 69, 70, 71, 72, 73, 74, 75, 76, 77, 78, 79, 80, 81, 82, 83, 84, 85, 86, 87, 88, 89] rfl (by decide +kernel)
set_option maxRecDepth 20000 in
theorem gX13_chalked_X13_isChalked : GoodIn wsX13_chalked (wsV RX13 359 RX13 yX13_isChalked wsX13_isChalked) := goodIn_app (goodIn_of _ (by decide +kernel)) ggX13_chalked_X13_isChalked
set_option maxRecDepth 20000 in
theorem ggX13_voids_X13_isDoor : GoodIn wsX13_voids wsX13_isDoor := goodIn_r _ [10, 11, 12, 13, 14, 9, 15, 1, 22, 23, 24, 25, 26, 27, 28, 29, 30, 31, 32, 33, 34, 35, 36, 37, 38, 39, 40, 41, 42, 43, 44, 45, 46, 47, 48, 49, 50, 51, 52, 53, 54, 55, 56, 57, 58, 59, 60, 61, 62, 63, 64, 65, 66, 67, 68, 69, 70, 71, 72, 73, 74, 75, 76, 77, 78, 79, 80, 81, 82, 83, 84, 85] rfl (by decide +kernel)
set_option maxRecDepth 20000 in
theorem gX13_voids_X13_isDoor : GoodIn wsX13_voids (wsV RX13 312 RX13 yX13_isDoor wsX13_isDoor) := goodIn_app (goodIn_of _ (by decide +kernel)) ggX13_voids_X13_isDoor
set_option maxRecDepth 20000 in
theorem ggX13_voids_X13_right : GoodIn wsX13_voids wsX13_right := goodIn_r _ [15, 1, 22, 23, 24, 25, 26, 27, 28, 29, 30, 31, 32, 33, 34, 35, 36, 37, 38, 39, 40, 41, 42, 43, 44, 45, 46, 47, 48, 49, 50, 51, 52, 53, 54, 55, 56, 57, 58, 59, 60, 61, 62, 63, 64, 65, 66, 67, 68, 69, 70, 71, 72, 73, 74, 75, 76, 77, 78, 79, 80, 81, 82, 83, 84, 85] rfl (by decide +kernel)
set_option maxRecDepth 20000 in
theorem gX13_voids_X13_right : GoodIn wsX13_voids (wsV RX13 235 RX13 yX13_right wsX13_right) := goodIn_app (goodIn_of _ (by decide +kernel)) ggX13_voids_X13_right
set_option maxRecDepth 20000 in
theorem ggX13_voids_X13_worthOf : GoodIn wsX13_voids wsX13_worthOf := goodIn_r _ [19, 20, 21, 2, 22, 23, 24, 25, 26, 27, 28, 29, 30, 31, 32, 33, 34, 35, 36, 37, 38, 39, 40, 41, 42, 43, 44, 45, 46, 47, 48, 49, 50, 51, 52, 53, 54, 55, 56, 57, 58, 59, 60, 61, 62, 63, 64, 65, 66, 67, 68, 69, 70, 71, 72, 73, 74, 75, 76, 77, 78, 79, 80, 81, 82, 83, 84, 85] rfl (by decide +kernel)
set_option maxRecDepth 20000 in
theorem gX13_voids_X13_worthOf : GoodIn wsX13_voids (wsV RX13 294 RX13 yX13_worthOf wsX13_worthOf) := goodIn_app (goodIn_of _ (by decide +kernel)) ggX13_voids_X13_worthOf
set_option maxRecDepth 20000 in
theorem ggX13_meanOf_X13_worthOf : GoodIn wsX13_meanOf wsX13_worthOf := goodIn_r _ [9, 10, 11, 12, 13, 14, 15, 16, 17, 18, 19, 20, 21, 22, 23, 24, 25, 26, 27, 28, 29, 30, 31, 32, 33, 34, 35, 36, 37, 38, 39, 40, 41, 42, 43, 44, 45, 46, 47, 48, 49, 50, 51, 52, 53, 54, 55, 56, 57, 58, 59, 60, 61, 62, 63, 64, 65, 66, 67, 68, 69, 70, 71, 72, 73, 74, 75, 76] rfl (by decide +kernel)
set_option maxRecDepth 20000 in
theorem gX13_meanOf_X13_worthOf : GoodIn wsX13_meanOf (wsV RX13 294 RX13 yX13_worthOf wsX13_worthOf) := goodIn_app (goodIn_of _ (by decide +kernel)) ggX13_meanOf_X13_worthOf
set_option maxRecDepth 20000 in
theorem ggX13_isTenths_X13_within : GoodIn wsX13_isTenths wsX13_within := goodIn_r _ [4] rfl (by decide +kernel)
set_option maxRecDepth 20000 in
theorem gX13_isTenths_X13_within : GoodIn wsX13_isTenths (va_wsS RX13 290 yX13_within wsX13_within) := goodIn_app (goodIn_of _ (by decide +kernel)) ggX13_isTenths_X13_within
set_option maxRecDepth 20000 in
theorem ggX13_isTenths_X13_right : GoodIn wsX13_isTenths wsX13_right := goodIn_r _ [8, 9, 10, 11, 12, 13, 14, 15, 16, 17, 18, 19, 20, 21, 22, 23, 24, 25, 26, 27, 28, 29, 30, 31, 32, 33, 34, 35, 36, 37, 38, 39, 40, 41, 42, 43, 44, 45, 46, 47, 48, 49, 50, 51, 52, 53, 54, 55, 56, 57, 58, 59, 60, 61, 62, 63, 64, 65, 66, 67, 68, 69, 70, 71, 72, 73] rfl (by decide +kernel)
set_option maxRecDepth 20000 in
theorem gX13_isTenths_X13_right : GoodIn wsX13_isTenths (wsV RX13 235 RX13 yX13_right wsX13_right) := goodIn_app (goodIn_of _ (by decide +kernel)) ggX13_isTenths_X13_right
set_option maxRecDepth 20000 in
theorem ggX13_mean_X13_isDoor : GoodIn wsX13_mean wsX13_isDoor := goodIn_r _ [6, 7, 8, 9, 10, 5, 11, 1, 34, 35, 36, 37, 38, 39, 40, 41, 42, 43, 44, 45, 46, 47, 48, 49, 50, 51, 52, 53, 54, 55, 56, 57, 58, 59, 60, 61, 62, 63, 64, 65, 66, 67, 68, 69, 70, 71, 72, 73, 74, 75, 76, 77, 78, 79, 80, 81, 82, 83, 84, 85, 86, 87, 88, 89, 90, 91, 92, 93, 94, 95, 96, 97] rfl (by decide +kernel)
set_option maxRecDepth 20000 in
theorem gX13_mean_X13_isDoor : GoodIn wsX13_mean (wsV RX13 312 RX13 yX13_isDoor wsX13_isDoor) := goodIn_app (goodIn_of _ (by decide +kernel)) ggX13_mean_X13_isDoor
set_option maxRecDepth 20000 in
theorem ggX13_mean_X13_within : GoodIn wsX13_mean wsX13_within := goodIn_r _ [14] rfl (by decide +kernel)
set_option maxRecDepth 20000 in
theorem gX13_mean_X13_within : GoodIn wsX13_mean (va_wsS RX13 290 yX13_within wsX13_within) := goodIn_app (goodIn_of _ (by decide +kernel)) ggX13_mean_X13_within
set_option maxRecDepth 20000 in
theorem ggX13_mean_X13_right : GoodIn wsX13_mean wsX13_right := goodIn_r _ [11, 1, 34, 35, 36, 37, 38, 39, 40, 41, 42, 43, 44, 45, 46, 47, 48, 49, 50, 51, 52, 53, 54, 55, 56, 57, 58, 59, 60, 61, 62, 63, 64, 65, 66, 67, 68, 69, 70, 71, 72, 73, 74, 75, 76, 77, 78, 79, 80, 81, 82, 83, 84, 85, 86, 87, 88, 89, 90, 91, 92, 93, 94, 95, 96, 97] rfl (by decide +kernel)
set_option maxRecDepth 20000 in
theorem gX13_mean_X13_right : GoodIn wsX13_mean (wsV RX13 235 RX13 yX13_right wsX13_right) := goodIn_app (goodIn_of _ (by decide +kernel)) ggX13_mean_X13_right
set_option maxRecDepth 20000 in
theorem ggX13_mean_X13_isTenths : GoodIn wsX13_mean wsX13_isTenths := goodIn_r _ [18, 12, 13, 5, 14, 8, 9, 10, 11, 1, 34, 35, 36, 37, 38, 39, 40, 41, 42, 43, 44, 45, 46, 47, 48, 49, 50, 51, 52, 53, 54, 55, 56, 57, 58, 59, 60, 61, 62, 63, 64, 65, 66, 67, 68, 69, 70, 71, 72, 73, 74, 75, 76, 77, 78, 79, 80, 81, 82, 83, 84, 85, 86, 87, 88, 89, 90, 91, 92, 93, 94, 95, 96, 97] rfl (by decide +kernel)
set_option maxRecDepth 20000 in
theorem gX13_mean_X13_isTenths : GoodIn wsX13_mean (wsV RX13 364 RX13 yX13_isTenths wsX13_isTenths) := goodIn_app (goodIn_of _ (by decide +kernel)) ggX13_mean_X13_isTenths
set_option maxRecDepth 20000 in
theorem ggX13_mean_X13_meanOf : GoodIn wsX13_mean wsX13_meanOf := goodIn_r _ [22, 23, 24, 25, 26, 27, 28, 29, 5, 30, 31, 32, 33, 34, 35, 36, 37, 38, 39, 40, 41, 42, 43, 44, 45, 46, 47, 48, 49, 50, 51, 52, 53, 54, 55, 56, 57, 58, 59, 60, 61, 62, 63, 64, 65, 66, 67, 68, 69, 70, 71, 72, 73, 74, 75, 76, 77, 78, 79, 80, 81, 82, 83, 84, 85, 86, 87, 88, 89, 90, 91, 92, 93, 94, 95, 96, 97] rfl (by decide +kernel)
set_option maxRecDepth 20000 in
theorem gX13_mean_X13_meanOf : GoodIn wsX13_mean (wsV RX13 367 RX13 yX13_meanOf wsX13_meanOf) := goodIn_app (goodIn_of _ (by decide +kernel)) ggX13_mean_X13_meanOf
set_option maxRecDepth 20000 in
theorem ggX13_pay_X13_isDoor : GoodIn wsX13_pay wsX13_isDoor := goodIn_r _ [6, 7, 8, 9, 10, 5, 11, 1, 34, 35, 36, 37, 38, 39, 40, 41, 42, 43, 44, 45, 46, 47, 48, 49, 50, 51, 52, 53, 54, 55, 56, 57, 58, 59, 60, 61, 62, 63, 64, 65, 66, 67, 68, 69, 70, 71, 72, 73, 74, 75, 76, 77, 78, 79, 80, 81, 82, 83, 84, 85, 86, 87, 88, 89, 90, 91, 92, 93, 94, 95, 96, 97] rfl (by decide +kernel)
set_option maxRecDepth 20000 in
theorem gX13_pay_X13_isDoor : GoodIn wsX13_pay (wsV RX13 312 RX13 yX13_isDoor wsX13_isDoor) := goodIn_app (goodIn_of _ (by decide +kernel)) ggX13_pay_X13_isDoor
set_option maxRecDepth 20000 in
theorem ggX13_pay_X13_isTenths : GoodIn wsX13_pay wsX13_isTenths := goodIn_r _ [15, 16, 17, 5, 18, 8, 9, 10, 11, 1, 34, 35, 36, 37, 38, 39, 40, 41, 42, 43, 44, 45, 46, 47, 48, 49, 50, 51, 52, 53, 54, 55, 56, 57, 58, 59, 60, 61, 62, 63, 64, 65, 66, 67, 68, 69, 70, 71, 72, 73, 74, 75, 76, 77, 78, 79, 80, 81, 82, 83, 84, 85, 86, 87, 88, 89, 90, 91, 92, 93, 94, 95, 96, 97] rfl (by decide +kernel)
set_option maxRecDepth 20000 in
theorem gX13_pay_X13_isTenths : GoodIn wsX13_pay (wsV RX13 364 RX13 yX13_isTenths wsX13_isTenths) := goodIn_app (goodIn_of _ (by decide +kernel)) ggX13_pay_X13_isTenths
set_option maxRecDepth 20000 in
theorem ggX13_pay_X13_meanOf : GoodIn wsX13_pay wsX13_meanOf := goodIn_r _ [22, 23, 24, 25, 26, 27, 28, 29, 5, 30, 31, 32, 33, 34, 35, 36, 37, 38, 39, 40, 41, 42, 43, 44, 45, 46, 47, 48, 49, 50, 51, 52, 53, 54, 55, 56, 57, 58, 59, 60, 61, 62, 63, 64, 65, 66, 67, 68, 69, 70, 71, 72, 73, 74, 75, 76, 77, 78, 79, 80, 81, 82, 83, 84, 85, 86, 87, 88, 89, 90, 91, 92, 93, 94, 95, 96, 97] rfl (by decide +kernel)
set_option maxRecDepth 20000 in
theorem gX13_pay_X13_meanOf : GoodIn wsX13_pay (wsV RX13 367 RX13 yX13_meanOf wsX13_meanOf) := goodIn_app (goodIn_of _ (by decide +kernel)) ggX13_pay_X13_meanOf
set_option maxRecDepth 20000 in
theorem ggX13_misread_X13_off : GoodIn wsX13_misread wsX13_off := goodIn_r _ [6] rfl (by decide +kernel)
set_option maxRecDepth 20000 in
theorem gX13_misread_X13_off : GoodIn wsX13_misread (va_wsS RX13 371 yX13_off wsX13_off) := goodIn_app (goodIn_of _ (by decide +kernel)) ggX13_misread_X13_off
set_option maxRecDepth 20000 in
theorem ggX13_trade_X13_right : GoodIn wsX13_trade wsX13_right := goodIn_r _ [6, 1, 35, 36, 37, 38, 39, 40, 41, 42, 43, 44, 45, 46, 47, 48, 49, 50, 51, 52, 53, 54, 55, 56, 57, 58, 59, 60, 61, 62, 63, 64, 65, 66, 67, 68, 69, 70, 71, 72, 73, 74, 75, 76, 77, 78, 79, 80, 81, 82, 83, 84, 85, 86, 87, 88, 89, 90, 91, 92, 93, 94, 95, 96, 97, 98] rfl (by decide +kernel)
set_option maxRecDepth 20000 in
theorem gX13_trade_X13_right : GoodIn wsX13_trade (wsV RX13 235 RX13 yX13_right wsX13_right) := goodIn_app (goodIn_of _ (by decide +kernel)) ggX13_trade_X13_right
set_option maxRecDepth 20000 in
theorem ggX13_trade_X13_isBase : GoodIn wsX13_trade wsX13_isBase := goodIn_r _ [10, 11, 12, 5, 13, 2, 3, 4, 6, 1, 35, 36, 37, 38, 39, 40, 41, 42, 43, 44, 45, 46, 47, 48, 49, 50, 51, 52, 53, 54, 55, 56, 57, 58, 59, 60, 61, 62, 63, 64, 65, 66, 67, 68, 69, 70, 71, 72, 73, 74, 75, 76, 77, 78, 79, 80, 81, 82, 83, 84, 85, 86, 87, 88, 89, 90, 91, 92, 93, 94, 95, 96, 97, 98] rfl (by decide +kernel)
set_option maxRecDepth 20000 in
theorem gX13_trade_X13_isBase : GoodIn wsX13_trade (wsV RX13 315 RX13 yX13_isBase wsX13_isBase) := goodIn_app (goodIn_of _ (by decide +kernel)) ggX13_trade_X13_isBase
set_option maxRecDepth 20000 in
theorem ggX13_trade_X13_lay : GoodIn wsX13_trade wsX13_lay := goodIn_r _ [17, 18, 19, 20, 21, 22, 5, 23, 24, 25, 26, 35, 36, 37, 38, 39, 40, 41, 42, 43, 44, 45, 46, 47, 48, 49, 50, 51, 52, 53, 54, 55, 56, 57, 58, 59, 60, 61, 62, 63, 64, 65, 66, 67, 68, 69, 70, 71, 72, 73, 74, 75, 76, 77, 78, 79, 80, 81, 82, 83, 84, 85, 86, 87, 88, 89, 90, 91, 92, 93, 94, 95, 96, 97, 98] rfl (by decide +kernel)
set_option maxRecDepth 20000 in
theorem gX13_trade_X13_lay : GoodIn wsX13_trade (wsV RX13 306 RX13 yX13_lay wsX13_lay) := goodIn_app (goodIn_of _ (by decide +kernel)) ggX13_trade_X13_lay
set_option maxRecDepth 20000 in
theorem ggX13_trade_X13_misread : GoodIn wsX13_trade wsX13_misread := goodIn_r _ [30, 18, 31, 32, 33, 5, 34, 35, 36, 37, 38, 39, 40, 41, 42, 43, 44, 45, 46, 47, 48, 49, 50, 51, 52, 53, 54, 55, 56, 57, 58, 59, 60, 61, 62, 63, 64, 65, 66, 67, 68, 69, 70, 71, 72, 73, 74, 75, 76, 77, 78, 79, 80, 81, 82, 83, 84, 85, 86, 87, 88, 89, 90, 91, 92, 93, 94, 95, 96, 97, 98] rfl (by decide +kernel)
set_option maxRecDepth 20000 in
theorem gX13_trade_X13_misread : GoodIn wsX13_trade (wsV RX13 374 RX13 yX13_misread wsX13_misread) := goodIn_app (goodIn_of _ (by decide +kernel)) ggX13_trade_X13_misread
set_option maxRecDepth 20000 in
theorem ggX13_tax_X13_isDoor : GoodIn wsX13_tax wsX13_isDoor := goodIn_r _ [6, 7, 8, 9, 10, 5, 11, 1, 19, 20, 21, 22, 23, 24, 25, 26, 27, 28, 29, 30, 31, 32, 33, 34, 35, 36, 37, 38, 39, 40, 41, 42, 43, 44, 45, 46, 47, 48, 49, 50, 51, 52, 53, 54, 55, 56, 57, 58, 59, 60, 61, 62, 63, 64, 65, 66, 67, 68, 69, 70, 71, 72, 73, 74, 75, 76, 77, 78, 79, 80, 81, 82] rfl (by decide +kernel)
set_option maxRecDepth 20000 in
theorem gX13_tax_X13_isDoor : GoodIn wsX13_tax (wsV RX13 312 RX13 yX13_isDoor wsX13_isDoor) := goodIn_app (goodIn_of _ (by decide +kernel)) ggX13_tax_X13_isDoor
set_option maxRecDepth 20000 in
theorem ggX13_tax_X13_worthOf : GoodIn wsX13_tax wsX13_worthOf := goodIn_r _ [15, 16, 17, 18, 19, 20, 21, 22, 23, 24, 25, 26, 27, 28, 29, 30, 31, 32, 33, 34, 35, 36, 37, 38, 39, 40, 41, 42, 43, 44, 45, 46, 47, 48, 49, 50, 51, 52, 53, 54, 55, 56, 57, 58, 59, 60, 61, 62, 63, 64, 65, 66, 67, 68, 69, 70, 71, 72, 73, 74, 75, 76, 77, 78, 79, 80, 81, 82] rfl (by decide +kernel)
set_option maxRecDepth 20000 in
theorem gX13_tax_X13_worthOf : GoodIn wsX13_tax (wsV RX13 294 RX13 yX13_worthOf wsX13_worthOf) := goodIn_app (goodIn_of _ (by decide +kernel)) ggX13_tax_X13_worthOf
set_option maxRecDepth 20000 in
theorem ggX13_sum_X13_isDoor : GoodIn wsX13_sum wsX13_isDoor := goodIn_r _ [8, 9, 10, 11, 12, 7, 13, 1, 20, 21, 22, 23, 24, 25, 26, 27, 28, 29, 30, 31, 32, 33, 34, 35, 36, 37, 38, 39, 40, 41, 42, 43, 44, 45, 46, 47, 48, 49, 50, 51, 52, 53, 54, 55, 56, 57, 58, 59, 60, 61, 62, 63, 64, 65, 66, 67, 68, 69, 70, 71, 72, 73, 74, 75, 76, 77, 78, 79, 80, 81, 82, 83] rfl (by decide +kernel)
set_option maxRecDepth 20000 in
theorem gX13_sum_X13_isDoor : GoodIn wsX13_sum (wsV RX13 312 RX13 yX13_isDoor wsX13_isDoor) := goodIn_app (goodIn_of _ (by decide +kernel)) ggX13_sum_X13_isDoor
set_option maxRecDepth 20000 in
theorem ggX13_sum_X13_right : GoodIn wsX13_sum wsX13_right := goodIn_r _ [13, 1, 20, 21, 22, 23, 24, 25, 26, 27, 28, 29, 30, 31, 32, 33, 34, 35, 36, 37, 38, 39, 40, 41, 42, 43, 44, 45, 46, 47, 48, 49, 50, 51, 52, 53, 54, 55, 56, 57, 58, 59, 60, 61, 62, 63, 64, 65, 66, 67, 68, 69, 70, 71, 72, 73, 74, 75, 76, 77, 78, 79, 80, 81, 82, 83] rfl (by decide +kernel)
set_option maxRecDepth 20000 in
theorem gX13_sum_X13_right : GoodIn wsX13_sum (wsV RX13 235 RX13 yX13_right wsX13_right) := goodIn_app (goodIn_of _ (by decide +kernel)) ggX13_sum_X13_right
set_option maxRecDepth 20000 in
theorem ggX13_sum_X13_lastOf : GoodIn wsX13_sum wsX13_lastOf := goodIn_r _ [17, 18, 19, 2, 20, 21, 22, 23, 24, 25, 26, 27, 28, 29, 30, 31, 32, 33, 34, 35, 36, 37, 38, 39, 40, 41, 42, 43, 44, 45, 46, 47, 48, 49, 50, 51, 52, 53, 54, 55, 56, 57, 58, 59, 60, 61, 62, 63, 64, 65, 66, 67, 68, 69, 70, 71, 72, 73, 74, 75, 76, 77, 78, 79, 80, 81, 82, 83] rfl (by decide +kernel)
set_option maxRecDepth 20000 in
theorem gX13_sum_X13_lastOf : GoodIn wsX13_sum (wsV RX13 377 RX13 yX13_lastOf wsX13_lastOf) := goodIn_app (goodIn_of _ (by decide +kernel)) ggX13_sum_X13_lastOf
set_option maxRecDepth 20000 in
theorem ggX13_image_X13_copies : GoodIn wsX13_image wsX13_copies := goodIn_r _ [29] rfl (by decide +kernel)
set_option maxRecDepth 20000 in
theorem gX13_image_X13_copies : GoodIn wsX13_image (wsV RX13 254 RX13 yX13_copies wsX13_copies) := goodIn_app (goodIn_of _ (by decide +kernel)) ggX13_image_X13_copies
set_option maxRecDepth 20000 in
theorem ggX13_restore_X13_copies : GoodIn wsX13_restore wsX13_copies := goodIn_r _ [29] rfl (by decide +kernel)
set_option maxRecDepth 20000 in
theorem gX13_restore_X13_copies : GoodIn wsX13_restore (wsV RX13 254 RX13 yX13_copies wsX13_copies) := goodIn_app (goodIn_of _ (by decide +kernel)) ggX13_restore_X13_copies
