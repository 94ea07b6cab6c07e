set_option maxRecDepth 20000 in
theorem ggX0_write_X0_linesDue : GoodIn wsX0_write wsX0_linesDue := goodIn_r _ [10, 2, 11, 12, 13, 14, 15] (by decide +kernel) (by decide +kernel)
set_option maxRecDepth 20000 in
theorem gX0_write_X0_linesDue : GoodIn wsX0_write (wsV RX0 28 RX0 yX0_linesDue wsX0_linesDue) := goodIn_app (goodIn_of _ (by decide +kernel)) ggX0_write_X0_linesDue
set_option maxRecDepth 20000 in
theorem ggX1_drawBy_X3_remainder : GoodIn wsX1_drawBy wsX3_remainder := goodIn_r _ [9, 10, 11, 12, 13, 14, 15, 23, 24] (by decide +kernel) (by decide +kernel)
set_option maxRecDepth 20000 in
theorem gX1_drawBy_X3_remainder : GoodIn wsX1_drawBy (wsV RX1 35 RX3 yX3_remainder wsX3_remainder) := goodIn_app (goodIn_of _ (by decide +kernel)) ggX1_drawBy_X3_remainder
set_option maxRecDepth 20000 in
theorem ggX2_copyFrom_X2_clear : GoodIn wsX2_copyFrom wsX2_clear := goodIn_r _ [8, 1, 13, 14, 15] (by decide +kernel) (by decide +kernel)
set_option maxRecDepth 20000 in
theorem gX2_copyFrom_X2_clear : GoodIn wsX2_copyFrom (wsV RX2 23 RX2 yX2_clear wsX2_clear) := goodIn_app (goodIn_of _ (by decide +kernel)) ggX2_copyFrom_X2_clear
set_option maxRecDepth 20000 in
theorem ggX2_copyFrom_X2_append : GoodIn wsX2_copyFrom wsX2_append := goodIn_r _ [12, 1, 2, 3, 13, 14, 15] (by decide +kernel) (by decide +kernel)
set_option maxRecDepth 20000 in
theorem gX2_copyFrom_X2_append : GoodIn wsX2_copyFrom (wsV RX2 26 RX2 yX2_append wsX2_append) := goodIn_app (goodIn_of _ (by decide +kernel)) ggX2_copyFrom_X2_append
set_option maxRecDepth 20000 in
theorem ggX3_remainder_X9_isBelow : GoodIn wsX3_remainder wsX9_isBelow := goodIn_r _ [6] (by decide +kernel) (by decide +kernel)
set_option maxRecDepth 20000 in
theorem gX3_remainder_X9_isBelow_n19 : GoodIn wsX3_remainder (wsX9_isBelow) := ggX3_remainder_X9_isBelow
set_option maxRecDepth 20000 in
theorem ggX4_arrange_X1_size : GoodIn wsX4_arrange wsX1_size := goodIn_r _ [8, 9, 93, 94, 95, 96, 97, 98, 99] (by decide +kernel) (by decide +kernel)
set_option maxRecDepth 20000 in
theorem gX4_arrange_X1_size : GoodIn wsX4_arrange (wsV RX4 35 RX1 yX1_size wsX1_size) := goodIn_app (goodIn_of _ (by decide +kernel)) ggX4_arrange_X1_size
set_option maxRecDepth 20000 in
theorem ggX4_arrange_X1_kindOf : GoodIn wsX4_arrange wsX1_kindOf := goodIn_r _ [13, 14, 93, 94, 95, 96, 97, 98, 99] (by decide +kernel) (by decide +kernel)
set_option maxRecDepth 20000 in
theorem gX4_arrange_X1_kindOf : GoodIn wsX4_arrange (wsV RX4 40 RX1 yX1_kindOf wsX1_kindOf) := goodIn_app (goodIn_of _ (by decide +kernel)) ggX4_arrange_X1_kindOf
set_option maxRecDepth 20000 in
theorem ggX4_arrange_X4_beats : GoodIn wsX4_arrange wsX4_beats := goodIn_r _ [19, 20, 21, 22, 23, 24, 25, 26, 27, 28, 29, 30, 31, 32, 33, 34, 18, 35, 2, 36, 37, 38, 39, 40, 7, 41, 42, 43, 44, 45, 46, 47, 48, 49, 50, 51, 52, 53, 54, 55, 56, 57, 58, 59, 60, 61, 62, 63, 64, 65, 66, 67, 68, 69, 70, 71, 72, 73, 74, 75, 76, 77, 78, 79, 80, 81, 82, 83, 84, 85, 86, 87, 88, 89, 90, 91, 92, 100, 101, 102, 93, 94, 95, 96, 97, 98, 99, 103, 104, 105, 106, 107, 108, 109, 110, 111, 112, 113] (by decide +kernel) (by decide +kernel)
set_option maxRecDepth 20000 in
theorem gX4_arrange_X4_beats : GoodIn wsX4_arrange (wsV RX4 44 RX4 yX4_beats wsX4_beats) := goodIn_app (goodIn_of _ (by decide +kernel)) ggX4_arrange_X4_beats
set_option maxRecDepth 20000 in
theorem ggX4_ploughmanAt_X9_isBelow : GoodIn wsX4_ploughmanAt wsX9_isBelow := goodIn_r _ [5] (by decide +kernel) (by decide +kernel)
set_option maxRecDepth 20000 in
theorem gX4_ploughmanAt_X9_isBelow_n48 : GoodIn wsX4_ploughmanAt (wsX9_isBelow) := ggX4_ploughmanAt_X9_isBelow
set_option maxRecDepth 20000 in
theorem ggX4_beats_X2_size : GoodIn wsX4_beats wsX2_size := goodIn_r _ [6, 7, 77, 78, 79] (by decide +kernel) (by decide +kernel)
set_option maxRecDepth 20000 in
theorem gX4_beats_X2_size : GoodIn wsX4_beats (wsV RX4 51 RX2 yX2_size wsX2_size) := goodIn_app (goodIn_of _ (by decide +kernel)) ggX4_beats_X2_size
set_option maxRecDepth 20000 in
theorem ggX4_beats_X2_measureAt : GoodIn wsX4_beats wsX2_measureAt := goodIn_r _ [11, 12, 77, 78, 79] (by decide +kernel) (by decide +kernel)
set_option maxRecDepth 20000 in
theorem gX4_beats_X2_measureAt : GoodIn wsX4_beats (wsV RX4 54 RX2 yX2_measureAt wsX2_measureAt) := goodIn_app (goodIn_of _ (by decide +kernel)) ggX4_beats_X2_measureAt
set_option maxRecDepth 20000 in
theorem ggX4_beats_X4_valueOf : GoodIn wsX4_beats wsX4_valueOf := goodIn_r _ [17, 18, 19, 20, 21, 22, 23, 24, 25, 26, 27, 28, 29, 30, 31, 32, 33, 34, 35, 36, 37, 38, 39, 40, 41, 42, 43, 44, 45, 46, 47, 48, 49, 50, 51, 52, 53, 54, 55, 56, 57, 58, 59, 60, 61, 62, 63, 64, 65, 71, 72, 73, 74, 75, 76, 80, 81, 82, 83, 84, 85, 86, 87, 88, 89, 90, 91, 92, 93, 94, 95, 96, 97] (by decide +kernel) (by decide +kernel)
set_option maxRecDepth 20000 in
theorem gX4_beats_X4_valueOf : GoodIn wsX4_beats (wsV RX4 57 RX4 yX4_valueOf wsX4_valueOf) := goodIn_app (goodIn_of _ (by decide +kernel)) ggX4_beats_X4_valueOf
set_option maxRecDepth 20000 in
theorem ggX4_beats_X2_isUp : GoodIn wsX4_beats wsX2_isUp := goodIn_r _ [69, 70, 77, 78, 79] (by decide +kernel) (by decide +kernel)
set_option maxRecDepth 20000 in
theorem gX4_beats_X2_isUp : GoodIn wsX4_beats (wsV RX4 61 RX2 yX2_isUp wsX2_isUp) := goodIn_app (goodIn_of _ (by decide +kernel)) ggX4_beats_X2_isUp
set_option maxRecDepth 20000 in
theorem ggX4_valueOf_X1_plotOf : GoodIn wsX4_valueOf wsX1_plotOf := goodIn_r _ [8, 9, 55, 56, 57, 58, 59, 60, 61] (by decide +kernel) (by decide +kernel)
set_option maxRecDepth 20000 in
theorem gX4_valueOf_X1_plotOf : GoodIn wsX4_valueOf (wsV RX4 65 RX1 yX1_plotOf wsX1_plotOf) := goodIn_app (goodIn_of _ (by decide +kernel)) ggX4_valueOf_X1_plotOf
set_option maxRecDepth 20000 in
theorem ggX4_valueOf_X5_finalOf : GoodIn wsX4_valueOf wsX5_finalOf := goodIn_r _ [14, 15, 16, 17, 18, 19, 20, 21, 22, 23, 24, 25, 26, 27, 28, 29, 30, 13, 31, 32, 33, 62, 63, 64, 65, 66, 67, 68, 69, 70, 71, 72] (by decide +kernel) (by decide +kernel)
set_option maxRecDepth 20000 in
theorem gX4_valueOf_X5_finalOf : GoodIn wsX4_valueOf (wsV RX4 68 RX5 yX5_finalOf wsX5_finalOf) := goodIn_app (goodIn_of _ (by decide +kernel)) ggX4_valueOf_X5_finalOf
set_option maxRecDepth 20000 in
theorem ggX4_valueOf_X7_sumOf : GoodIn wsX4_valueOf wsX7_sumOf := goodIn_r _ [21, 22, 66, 67, 68, 69, 70, 71, 72] (by decide +kernel) (by decide +kernel)
set_option maxRecDepth 20000 in
theorem gX4_valueOf_X7_sumOf : GoodIn wsX4_valueOf (wsV RX4 73 RX7 yX7_sumOf wsX7_sumOf) := goodIn_app (goodIn_of _ (by decide +kernel)) ggX4_valueOf_X7_sumOf
set_option maxRecDepth 20000 in
theorem ggX4_valueOf_X5_minutesOf : GoodIn wsX4_valueOf wsX5_minutesOf := goodIn_r _ [38, 32, 62, 63, 64, 65] (by decide +kernel) (by decide +kernel)
set_option maxRecDepth 20000 in
theorem gX4_valueOf_X5_minutesOf : GoodIn wsX4_valueOf (wsV RX4 78 RX5 yX5_minutesOf wsX5_minutesOf) := goodIn_app (goodIn_of _ (by decide +kernel)) ggX4_valueOf_X5_minutesOf
set_option maxRecDepth 20000 in
theorem ggX4_valueOf_X1_ageOf : GoodIn wsX4_valueOf wsX1_ageOf := goodIn_r _ [42, 43, 55, 56, 57, 58, 59, 60, 61] (by decide +kernel) (by decide +kernel)
set_option maxRecDepth 20000 in
theorem gX4_valueOf_X1_ageOf : GoodIn wsX4_valueOf (wsV RX4 81 RX1 yX1_ageOf wsX1_ageOf) := goodIn_app (goodIn_of _ (by decide +kernel)) ggX4_valueOf_X1_ageOf
set_option maxRecDepth 20000 in
theorem ggX4_valueOf_X7_toldOf : GoodIn wsX4_valueOf wsX7_toldOf := goodIn_r _ [47, 48, 66, 67, 68, 69, 70, 71, 72] (by decide +kernel) (by decide +kernel)
set_option maxRecDepth 20000 in
theorem gX4_valueOf_X7_toldOf : GoodIn wsX4_valueOf (wsV RX4 84 RX7 yX7_toldOf wsX7_toldOf) := goodIn_app (goodIn_of _ (by decide +kernel)) ggX4_valueOf_X7_toldOf
set_option maxRecDepth 20000 in
theorem ggX5_finalOf_X7_sumOf : GoodIn wsX5_finalOf wsX7_sumOf := goodIn_r _ [7, 8, 25, 26, 27, 28, 29, 30, 31] (by decide +kernel) (by decide +kernel)
set_option maxRecDepth 20000 in
theorem gX5_finalOf_X7_sumOf : GoodIn wsX5_finalOf (wsV RX5 26 RX7 yX7_sumOf wsX7_sumOf) := goodIn_app (goodIn_of _ (by decide +kernel)) ggX5_finalOf_X7_sumOf
set_option maxRecDepth 20000 in
theorem ggX5_finalOf_X7_groundOf : GoodIn wsX5_finalOf wsX7_groundOf := goodIn_r _ [12, 13, 25, 26, 27, 28, 29, 30, 31] (by decide +kernel) (by decide +kernel)
set_option maxRecDepth 20000 in
theorem gX5_finalOf_X7_groundOf : GoodIn wsX5_finalOf (wsV RX5 32 RX7 yX7_groundOf wsX7_groundOf) := goodIn_app (goodIn_of _ (by decide +kernel)) ggX5_finalOf_X7_groundOf
set_option maxRecDepth 20000 in
theorem ggX5_finalOf_X5_overtimeOf : GoodIn wsX5_finalOf wsX5_overtimeOf := goodIn_r _ [18, 19, 20, 21, 22, 23, 24] (by decide +kernel) (by decide +kernel)
set_option maxRecDepth 20000 in
theorem gX5_finalOf_X5_overtimeOf : GoodIn wsX5_finalOf (wsV RX5 35 RX5 yX5_overtimeOf wsX5_overtimeOf) := goodIn_app (goodIn_of _ (by decide +kernel)) ggX5_finalOf_X5_overtimeOf
set_option maxRecDepth 20000 in
theorem ggX6_init_X2_init : GoodIn wsX6_init wsX2_init := goodIn_r _ [13, 14, 2, 3, 15, 16, 17, 18, 19, 20, 21, 22] (by decide +kernel) (by decide +kernel)
set_option maxRecDepth 20000 in
theorem gX6_init_X2_init_n11 : GoodIn wsX6_init (wsX2_init) := ggX6_init_X2_init
set_option maxRecDepth 20000 in
theorem ggX6_read_X8_size : GoodIn wsX6_read wsX8_size := goodIn_r _ [9, 10, 108, 109] (by decide +kernel) (by decide +kernel)
set_option maxRecDepth 20000 in
theorem gX6_read_X8_size : GoodIn wsX6_read (wsV RX6 32 RX8 yX8_size wsX8_size) := goodIn_app (goodIn_of _ (by decide +kernel)) ggX6_read_X8_size
set_option maxRecDepth 20000 in
theorem ggX6_read_X2_clear : GoodIn wsX6_read wsX2_clear := goodIn_r _ [15, 16, 110, 111, 112] (by decide +kernel) (by decide +kernel)
set_option maxRecDepth 20000 in
theorem gX6_read_X2_clear : GoodIn wsX6_read (wsV RX6 38 RX2 yX2_clear wsX2_clear) := goodIn_app (goodIn_of _ (by decide +kernel)) ggX6_read_X2_clear
set_option maxRecDepth 20000 in
theorem ggX6_read_X6_readKey : GoodIn wsX6_read wsX6_readKey := goodIn_r _ [21, 22, 3, 4, 23, 24, 25, 20, 26, 27, 28, 29, 30, 2, 1, 31, 32, 33, 34, 35, 36, 37, 8, 38, 10, 39, 40, 41, 42, 43, 44, 45, 46, 47, 48, 49, 50, 51, 52, 53, 54, 55, 56, 57, 58, 59, 60, 61, 62, 63, 64, 65, 66, 67, 68, 69, 70, 71, 72, 73, 74, 75, 76, 77, 78, 79, 80, 81, 82, 83, 84, 85, 86, 87, 88, 89, 90, 91, 92, 93, 94, 95, 96, 97, 98, 99, 14, 100, 16, 101, 102, 103, 104, 105, 106, 107, 108, 109, 110, 111, 112] (by decide +kernel) (by decide +kernel)
set_option maxRecDepth 20000 in
theorem gX6_read_X6_readKey : GoodIn wsX6_read (wsV RX6 41 RX6 yX6_readKey wsX6_readKey) := goodIn_app (goodIn_of _ (by decide +kernel)) ggX6_read_X6_readKey
set_option maxRecDepth 20000 in
theorem ggX6_read_X6_skipBlanks : GoodIn wsX6_read wsX6_skipBlanks := goodIn_r _ [34, 3, 2, 1, 35, 36, 37, 8, 38, 10, 39, 103, 104, 105, 106, 107, 108, 109] (by decide +kernel) (by decide +kernel)
set_option maxRecDepth 20000 in
theorem gX6_read_X6_skipBlanks : GoodIn wsX6_read (wsV RX6 45 RX6 yX6_skipBlanks wsX6_skipBlanks) := goodIn_app (goodIn_of _ (by decide +kernel)) ggX6_read_X6_skipBlanks
set_option maxRecDepth 20000 in
theorem ggX6_read_X8_byteAt : GoodIn wsX6_read wsX8_byteAt := goodIn_r _ [38, 10, 39, 108, 109] (by decide +kernel) (by decide +kernel)
set_option maxRecDepth 20000 in
theorem gX6_read_X8_byteAt : GoodIn wsX6_read (wsV RX6 48 RX8 yX8_byteAt wsX8_byteAt) := goodIn_app (goodIn_of _ (by decide +kernel)) ggX6_read_X8_byteAt
set_option maxRecDepth 20000 in
theorem ggX6_readKey_X6_readMeasure : GoodIn wsX6_readKey wsX6_readMeasure := goodIn_r _ [8, 1, 2, 9, 10, 11, 7, 12, 13, 14, 15, 16, 17, 18, 19, 20, 21, 22, 23, 24, 25, 26, 27, 28, 29, 30, 31, 32, 33, 34, 35, 36, 37, 38, 39, 40, 41, 42, 43, 44, 45, 46, 47, 48, 49, 50, 51, 52, 53, 54, 55, 56, 57, 58, 59, 60, 61, 62, 63, 64, 65, 66, 67, 68, 69, 70, 71, 72, 73, 74, 75, 76, 77, 78, 79, 80, 81, 82, 91, 92, 93, 94, 95, 96, 97] (by decide +kernel) (by decide +kernel)
set_option maxRecDepth 20000 in
theorem gX6_readKey_X6_readMeasure : GoodIn wsX6_readKey (wsV RX6 52 RX6 yX6_readMeasure wsX6_readMeasure) := goodIn_app (goodIn_of _ (by decide +kernel)) ggX6_readKey_X6_readMeasure
set_option maxRecDepth 20000 in
theorem ggX6_readKey_X6_readWord : GoodIn wsX6_readKey wsX6_readWord := goodIn_r _ [12, 2, 1, 13, 14, 15, 16, 17, 7, 18, 19, 20, 21, 22, 23, 24, 25, 91, 92, 93, 94, 95, 96, 97] (by decide +kernel) (by decide +kernel)
set_option maxRecDepth 20000 in
theorem gX6_readKey_X6_readWord : GoodIn wsX6_readKey (wsV RX6 55 RX6 yX6_readWord wsX6_readWord) := goodIn_app (goodIn_of _ (by decide +kernel)) ggX6_readKey_X6_readWord
set_option maxRecDepth 20000 in
theorem ggX6_readKey_X6_isWord : GoodIn wsX6_readKey wsX6_isWord := goodIn_r _ [29, 2, 1, 14, 30, 31, 32, 33, 34, 35, 36, 37, 38, 39, 40, 41, 19, 20, 21, 22, 23, 24, 25, 42, 43, 44, 45, 46, 47, 48, 49, 50, 51, 52, 53, 54, 55, 56, 57, 58, 59, 60, 61, 62, 63, 64, 65, 66, 67, 68, 69, 70, 71, 72, 73, 74, 75, 76, 77, 78, 91, 92, 93, 94, 95, 96, 97] (by decide +kernel) (by decide +kernel)
set_option maxRecDepth 20000 in
theorem gX6_readKey_X6_isWord : GoodIn wsX6_readKey (wsV RX6 60 RX6 yX6_isWord wsX6_isWord) := goodIn_app (goodIn_of _ (by decide +kernel)) ggX6_readKey_X6_isWord
set_option maxRecDepth 20000 in
theorem ggX6_readKey_X2_append : GoodIn wsX6_readKey wsX2_append := goodIn_r _ [87, 88, 89, 90, 98, 99, 100] (by decide +kernel) (by decide +kernel)
set_option maxRecDepth 20000 in
theorem gX6_readKey_X2_append : GoodIn wsX6_readKey (wsV RX6 66 RX2 yX2_append wsX2_append) := goodIn_app (goodIn_of _ (by decide +kernel)) ggX6_readKey_X2_append
set_option maxRecDepth 20000 in
theorem ggX6_readMeasure_X6_readWord : GoodIn wsX6_readMeasure wsX6_readWord := goodIn_r _ [7, 2, 1, 8, 9, 10, 11, 12, 6, 13, 14, 15, 16, 17, 18, 19, 20, 78, 79, 80, 81, 82, 83, 84] (by decide +kernel) (by decide +kernel)
set_option maxRecDepth 20000 in
theorem gX6_readMeasure_X6_readWord : GoodIn wsX6_readMeasure (wsV RX6 55 RX6 yX6_readWord wsX6_readWord) := goodIn_app (goodIn_of _ (by decide +kernel)) ggX6_readMeasure_X6_readWord
set_option maxRecDepth 20000 in
theorem ggX6_readMeasure_X6_isWord : GoodIn wsX6_readMeasure wsX6_isWord := goodIn_r _ [24, 2, 1, 9, 25, 26, 27, 28, 29, 30, 31, 32, 33, 34, 35, 36, 14, 15, 16, 17, 18, 19, 20, 37, 38, 39, 40, 41, 42, 43, 44, 45, 46, 47, 48, 49, 50, 51, 52, 53, 54, 55, 56, 57, 58, 59, 60, 61, 62, 63, 64, 65, 66, 67, 68, 69, 70, 71, 72, 73, 78, 79, 80, 81, 82, 83, 84] (by decide +kernel) (by decide +kernel)
set_option maxRecDepth 20000 in
theorem gX6_readMeasure_X6_isWord : GoodIn wsX6_readMeasure (wsV RX6 60 RX6 yX6_isWord wsX6_isWord) := goodIn_app (goodIn_of _ (by decide +kernel)) ggX6_readMeasure_X6_isWord
set_option maxRecDepth 20000 in
theorem ggX6_readMeasure_X6_readPart : GoodIn wsX6_readMeasure wsX6_readPart := goodIn_r _ [77, 9, 2, 10, 11, 12, 6, 13, 8, 14, 15, 16, 17, 18, 19, 20, 78, 79, 80, 81, 82, 83, 84] (by decide +kernel) (by decide +kernel)
set_option maxRecDepth 20000 in
theorem gX6_readMeasure_X6_readPart : GoodIn wsX6_readMeasure (wsV RX6 80 RX6 yX6_readPart wsX6_readPart) := goodIn_app (goodIn_of _ (by decide +kernel)) ggX6_readMeasure_X6_readPart
set_option maxRecDepth 20000 in
theorem ggX6_readPart_X6_skipBlanks : GoodIn wsX6_readPart wsX6_skipBlanks := goodIn_r _ [7, 2, 8, 1, 9, 10, 11, 12, 13, 14, 15, 16, 17, 18, 19, 20, 21, 22] (by decide +kernel) (by decide +kernel)
set_option maxRecDepth 20000 in
theorem gX6_readPart_X6_skipBlanks : GoodIn wsX6_readPart (wsV RX6 45 RX6 yX6_skipBlanks wsX6_skipBlanks) := goodIn_app (goodIn_of _ (by decide +kernel)) ggX6_readPart_X6_skipBlanks
set_option maxRecDepth 20000 in
theorem ggX6_readPart_X8_byteAt : GoodIn wsX6_readPart wsX8_byteAt := goodIn_r _ [13, 14, 15, 21, 22] (by decide +kernel) (by decide +kernel)
set_option maxRecDepth 20000 in
theorem gX6_readPart_X8_byteAt : GoodIn wsX6_readPart (wsV RX6 48 RX8 yX8_byteAt wsX8_byteAt) := goodIn_app (goodIn_of _ (by decide +kernel)) ggX6_readPart_X8_byteAt
set_option maxRecDepth 20000 in
theorem ggX6_readWord_X6_skipBlanks : GoodIn wsX6_readWord wsX6_skipBlanks := goodIn_r _ [9, 1, 3, 4, 10, 11, 12, 13, 14, 15, 16, 17, 18, 19, 20, 21, 22, 23] (by decide +kernel) (by decide +kernel)
set_option maxRecDepth 20000 in
theorem gX6_readWord_X6_skipBlanks : GoodIn wsX6_readWord (wsV RX6 45 RX6 yX6_skipBlanks wsX6_skipBlanks) := goodIn_app (goodIn_of _ (by decide +kernel)) ggX6_readWord_X6_skipBlanks
set_option maxRecDepth 20000 in
theorem ggX6_readWord_X8_byteAt : GoodIn wsX6_readWord wsX8_byteAt := goodIn_r _ [14, 15, 16, 22, 23] (by decide +kernel) (by decide +kernel)
set_option maxRecDepth 20000 in
theorem gX6_readWord_X8_byteAt : GoodIn wsX6_readWord (wsV RX6 48 RX8 yX8_byteAt wsX8_byteAt) := goodIn_app (goodIn_of _ (by decide +kernel)) ggX6_readWord_X8_byteAt
set_option maxRecDepth 20000 in
theorem ggX6_isWord_J0_length_8abf5 : GoodIn wsX6_isWord wsJ0_length_8abf5 := goodIn_r _ [8, 9, 10, 11, 12, 7, 13, 14, 15] (by decide +kernel) (by decide +kernel)
set_option maxRecDepth 20000 in
theorem gX6_isWord_J0_length_8abf5 : GoodIn wsX6_isWord (wsV RX6 83 RJ0 yJ0_length_8abf5 wsJ0_length_8abf5) := goodIn_app (goodIn_of _ (by decide +kernel)) ggX6_isWord_J0_length_8abf5
set_option maxRecDepth 20000 in
theorem ggX6_isWord_X8_byteAt : GoodIn wsX6_isWord wsX8_byteAt := goodIn_r _ [20, 21, 22, 65, 66] (by decide +kernel) (by decide +kernel)
set_option maxRecDepth 20000 in
theorem gX6_isWord_X8_byteAt : GoodIn wsX6_isWord (wsV RX6 48 RX8 yX8_byteAt wsX8_byteAt) := goodIn_app (goodIn_of _ (by decide +kernel)) ggX6_isWord_X8_byteAt
set_option maxRecDepth 20000 in
theorem ggX6_isWord_J0_charAt_5068e : GoodIn wsX6_isWord wsJ0_charAt_5068e := goodIn_r _ [26, 9, 27, 28, 29, 7, 30, 14, 15, 31, 32, 33, 34, 35, 36, 37, 38, 39, 40, 41, 42, 43, 44, 45, 46, 47, 48, 49, 50, 51, 52, 53, 54, 55, 56, 57, 58, 59] (by decide +kernel) (by decide +kernel)
set_option maxRecDepth 20000 in
theorem gX6_isWord_J0_charAt_5068e : GoodIn wsX6_isWord (wsV RX6 87 RJ0 yJ0_charAt_5068e wsJ0_charAt_5068e) := goodIn_app (goodIn_of _ (by decide +kernel)) ggX6_isWord_J0_charAt_5068e
set_option maxRecDepth 20000 in
theorem ggX6_skipBlanks_X8_byteAt : GoodIn wsX6_skipBlanks wsX8_byteAt := goodIn_r _ [8, 9, 10, 16, 17] (by decide +kernel) (by decide +kernel)
set_option maxRecDepth 20000 in
theorem gX6_skipBlanks_X8_byteAt : GoodIn wsX6_skipBlanks (wsV RX6 48 RX8 yX8_byteAt wsX8_byteAt) := goodIn_app (goodIn_of _ (by decide +kernel)) ggX6_skipBlanks_X8_byteAt
set_option maxRecDepth 20000 in
theorem ggX7_init_J7_fill_53178 : GoodIn wsX7_init wsJ7_fill_53178 := goodIn_r _ [16] (by decide +kernel) (by decide +kernel)
set_option maxRecDepth 20000 in
theorem gX7_init_J7_fill_53178 : GoodIn wsX7_init (va_wsS RX7 34 yJ7_fill_53178 wsJ7_fill_53178) := goodIn_app (goodIn_of _ (by decide +kernel)) ggX7_init_J7_fill_53178
set_option maxRecDepth 20000 in
theorem ggX7_put_X7_placeOf : GoodIn wsX7_put wsX7_placeOf := goodIn_r _ [6] (by decide +kernel) (by decide +kernel)
set_option maxRecDepth 20000 in
theorem gX7_put_X7_placeOf : GoodIn wsX7_put (va_wsS RX7 41 yX7_placeOf wsX7_placeOf) := goodIn_app (goodIn_of _ (by decide +kernel)) ggX7_put_X7_placeOf
set_option maxRecDepth 20000 in
theorem ggX7_put_X7_workOutPart : GoodIn wsX7_put wsX7_workOutPart := goodIn_r _ [10, 11, 12, 13, 14, 15, 16, 5, 17, 1, 3, 4, 6, 18, 19, 20, 21, 22, 23, 24, 25, 26, 27, 28, 29, 30, 49, 50, 51, 52, 53, 54, 55] (by decide +kernel) (by decide +kernel)
set_option maxRecDepth 20000 in
theorem gX7_put_X7_workOutPart : GoodIn wsX7_put (wsV RX7 45 RX7 yX7_workOutPart wsX7_workOutPart) := goodIn_app (goodIn_of _ (by decide +kernel)) ggX7_put_X7_workOutPart
set_option maxRecDepth 20000 in
theorem ggX7_put_X7_workOutSums : GoodIn wsX7_put wsX7_workOutSums := goodIn_r _ [34, 12, 26, 35, 36, 37, 38, 5, 39, 13, 49, 50, 51, 52, 53, 54, 55] (by decide +kernel) (by decide +kernel)
set_option maxRecDepth 20000 in
theorem gX7_put_X7_workOutSums : GoodIn wsX7_put (wsV RX7 49 RX7 yX7_workOutSums wsX7_workOutSums) := goodIn_app (goodIn_of _ (by decide +kernel)) ggX7_put_X7_workOutSums
set_option maxRecDepth 20000 in
theorem ggX7_put_X7_workOutGrounds : GoodIn wsX7_put wsX7_workOutGrounds := goodIn_r _ [43, 12, 35, 44, 18, 19, 20, 21, 45, 46, 47, 5, 48, 49, 50, 51, 52, 53, 54, 55] (by decide +kernel) (by decide +kernel)
set_option maxRecDepth 20000 in
theorem gX7_put_X7_workOutGrounds : GoodIn wsX7_put (wsV RX7 52 RX7 yX7_workOutGrounds wsX7_workOutGrounds) := goodIn_app (goodIn_of _ (by decide +kernel)) ggX7_put_X7_workOutGrounds
set_option maxRecDepth 20000 in
theorem ggX7_untoldOf_X7_toldOf : GoodIn wsX7_untoldOf wsX7_toldOf := goodIn_r _ [6, 7, 8, 9, 10, 11, 12, 13, 14] (by decide +kernel) (by decide +kernel)
set_option maxRecDepth 20000 in
theorem gX7_untoldOf_X7_toldOf : GoodIn wsX7_untoldOf (wsV RX7 55 RX7 yX7_toldOf wsX7_toldOf) := goodIn_app (goodIn_of _ (by decide +kernel)) ggX7_untoldOf_X7_toldOf
set_option maxRecDepth 20000 in
theorem ggX7_workOutPart_X7_workOutHard : GoodIn wsX7_workOutPart wsX7_workOutHard := goodIn_r _ [8, 2, 9, 10, 11, 7, 12, 13, 14, 15, 16, 26, 27, 28, 29, 30, 31, 32] (by decide +kernel) (by decide +kernel)
set_option maxRecDepth 20000 in
theorem gX7_workOutPart_X7_workOutHard : GoodIn wsX7_workOutPart (wsV RX7 59 RX7 yX7_workOutHard wsX7_workOutHard) := goodIn_app (goodIn_of _ (by decide +kernel)) ggX7_workOutPart_X7_workOutHard
set_option maxRecDepth 20000 in
theorem ggX7_workOutPart_X7_workOutTold : GoodIn wsX7_workOutPart wsX7_workOutTold := goodIn_r _ [20, 9, 21, 10, 11, 7, 12, 22, 23, 24, 25, 1, 13, 14, 15, 16, 26, 27, 28, 29, 30, 31, 32] (by decide +kernel) (by decide +kernel)
set_option maxRecDepth 20000 in
theorem gX7_workOutPart_X7_workOutTold : GoodIn wsX7_workOutPart (wsV RX7 62 RX7 yX7_workOutTold wsX7_workOutTold) := goodIn_app (goodIn_of _ (by decide +kernel)) ggX7_workOutPart_X7_workOutTold
set_option maxRecDepth 20000 in
theorem ggX7_workOutHard_X7_placeOf : GoodIn wsX7_workOutHard wsX7_placeOf := goodIn_r _ [6] (by decide +kernel) (by decide +kernel)
set_option maxRecDepth 20000 in
theorem gX7_workOutHard_X7_placeOf : GoodIn wsX7_workOutHard (va_wsS RX7 41 yX7_placeOf wsX7_placeOf) := goodIn_app (goodIn_of _ (by decide +kernel)) ggX7_workOutHard_X7_placeOf
set_option maxRecDepth 20000 in
theorem ggX7_workOutHard_J9_floorDiv_7cf53 : GoodIn wsX7_workOutHard wsJ9_floorDiv_7cf53 := goodIn_r _ [10] (by decide +kernel) (by decide +kernel)
set_option maxRecDepth 20000 in
theorem gX7_workOutHard_J9_floorDiv_7cf53 : GoodIn wsX7_workOutHard (va_wsS RX7 65 yJ9_floorDiv_7cf53 wsJ9_floorDiv_7cf53) := goodIn_app (goodIn_of _ (by decide +kernel)) ggX7_workOutHard_J9_floorDiv_7cf53
set_option maxRecDepth 20000 in
theorem ggX7_workOutTold_X7_placeOf : GoodIn wsX7_workOutTold wsX7_placeOf := goodIn_r _ [6] (by decide +kernel) (by decide +kernel)
set_option maxRecDepth 20000 in
theorem gX7_workOutTold_X7_placeOf : GoodIn wsX7_workOutTold (va_wsS RX7 41 yX7_placeOf wsX7_placeOf) := goodIn_app (goodIn_of _ (by decide +kernel)) ggX7_workOutTold_X7_placeOf
set_option maxRecDepth 20000 in
theorem ggX7_workOutTold_X7_hardOf : GoodIn wsX7_workOutTold wsX7_hardOf := goodIn_r _ [10, 11, 16, 17, 18, 19, 20, 21, 22] (by decide +kernel) (by decide +kernel)
set_option maxRecDepth 20000 in
theorem gX7_workOutTold_X7_hardOf : GoodIn wsX7_workOutTold (wsV RX7 70 RX7 yX7_hardOf wsX7_hardOf) := goodIn_app (goodIn_of _ (by decide +kernel)) ggX7_workOutTold_X7_hardOf
set_option maxRecDepth 20000 in
theorem ggX7_workOutTold_J9_floorDiv_7cf53 : GoodIn wsX7_workOutTold wsJ9_floorDiv_7cf53 := goodIn_r _ [15] (by decide +kernel) (by decide +kernel)
set_option maxRecDepth 20000 in
theorem gX7_workOutTold_J9_floorDiv_7cf53 : GoodIn wsX7_workOutTold (va_wsS RX7 65 yJ9_floorDiv_7cf53 wsJ9_floorDiv_7cf53) := goodIn_app (goodIn_of _ (by decide +kernel)) ggX7_workOutTold_J9_floorDiv_7cf53
set_option maxRecDepth 20000 in
theorem ggX7_workOutSums_X7_toldOf : GoodIn wsX7_workOutSums wsX7_toldOf := goodIn_r _ [8, 9, 10, 11, 12, 13, 14, 15, 16] (by decide +kernel) (by decide +kernel)
set_option maxRecDepth 20000 in
theorem gX7_workOutSums_X7_toldOf : GoodIn wsX7_workOutSums (wsV RX7 55 RX7 yX7_toldOf wsX7_toldOf) := goodIn_app (goodIn_of _ (by decide +kernel)) ggX7_workOutSums_X7_toldOf
set_option maxRecDepth 20000 in
theorem ggX7_workOutGrounds_J9_floorDiv_7cf53 : GoodIn wsX7_workOutGrounds wsJ9_floorDiv_7cf53 := goodIn_r _ [7] (by decide +kernel) (by decide +kernel)
set_option maxRecDepth 20000 in
theorem gX7_workOutGrounds_J9_floorDiv_7cf53 : GoodIn wsX7_workOutGrounds (va_wsS RX7 65 yJ9_floorDiv_7cf53 wsJ9_floorDiv_7cf53) := goodIn_app (goodIn_of _ (by decide +kernel)) ggX7_workOutGrounds_J9_floorDiv_7cf53
set_option maxRecDepth 20000 in
theorem ggX7_workOutGrounds_X7_neighboursMean : GoodIn wsX7_workOutGrounds wsX7_neighboursMean := goodIn_r _ [12, 2, 1, 4, 5, 6, 7, 13, 14, 15, 16, 17, 18, 19] (by decide +kernel) (by decide +kernel)
set_option maxRecDepth 20000 in
theorem gX7_workOutGrounds_X7_neighboursMean : GoodIn wsX7_workOutGrounds (wsV RX7 73 RX7 yX7_neighboursMean wsX7_neighboursMean) := goodIn_app (goodIn_of _ (by decide +kernel)) ggX7_workOutGrounds_X7_neighboursMean
set_option maxRecDepth 20000 in
theorem ggX7_neighboursMean_J9_floorDiv_7cf53 : GoodIn wsX7_neighboursMean wsJ9_floorDiv_7cf53 := goodIn_r _ [6] (by decide +kernel) (by decide +kernel)
set_option maxRecDepth 20000 in
theorem gX7_neighboursMean_J9_floorDiv_7cf53 : GoodIn wsX7_neighboursMean (va_wsS RX7 65 yJ9_floorDiv_7cf53 wsJ9_floorDiv_7cf53) := goodIn_app (goodIn_of _ (by decide +kernel)) ggX7_neighboursMean_J9_floorDiv_7cf53
set_option maxRecDepth 20000 in
theorem ggX9_init_X3_init : GoodIn wsX9_init wsX3_init := goodIn_r _ [44, 45, 2, 3, 40, 46, 47, 126, 127] (by decide +kernel) (by decide +kernel)
set_option maxRecDepth 20000 in
theorem gX9_init_X3_init_n9 : GoodIn wsX9_init (wsX3_init) := ggX9_init_X3_init
set_option maxRecDepth 20000 in
theorem ggX9_init_X1_init : GoodIn wsX9_init wsX1_init := goodIn_r _ [49, 50, 2, 3, 40, 51, 52, 53, 54, 55, 56, 57, 139, 140, 141, 142, 143, 144, 145] (by decide +kernel) (by decide +kernel)
set_option maxRecDepth 20000 in
theorem gX9_init_X1_init_n18 : GoodIn wsX9_init (wsX1_init) := ggX9_init_X1_init
set_option maxRecDepth 20000 in
theorem ggX9_init_X7_init : GoodIn wsX9_init wsX7_init := goodIn_r _ [60, 61, 2, 3, 40, 62, 63, 64, 65, 66, 67, 68, 69, 70, 71, 72, 73, 146, 147, 148, 149, 150, 151, 152] (by decide +kernel) (by decide +kernel)
set_option maxRecDepth 20000 in
theorem gX9_init_X7_init : GoodIn wsX9_init (wsX7_init) := ggX9_init_X7_init
set_option maxRecDepth 20000 in
theorem ggX9_init_X5_init : GoodIn wsX9_init wsX5_init := goodIn_r _ [76, 77, 2, 3, 40, 78, 79, 80, 81, 153, 154, 155, 156] (by decide +kernel) (by decide +kernel)
set_option maxRecDepth 20000 in
theorem gX9_init_X5_init : GoodIn wsX9_init (wsX5_init) := ggX9_init_X5_init
set_option maxRecDepth 20000 in
theorem ggX9_init_X8_init : GoodIn wsX9_init wsX8_init := goodIn_r _ [83, 84, 2, 3, 40, 85, 86, 157, 158] (by decide +kernel) (by decide +kernel)
set_option maxRecDepth 20000 in
theorem gX9_init_X8_init_n41 : GoodIn wsX9_init (wsX8_init) := ggX9_init_X8_init
set_option maxRecDepth 20000 in
theorem ggX9_init_X2_init : GoodIn wsX9_init wsX2_init := goodIn_r _ [88, 89, 2, 3, 40, 90, 91, 92, 93, 159, 160, 161] (by decide +kernel) (by decide +kernel)
set_option maxRecDepth 20000 in
theorem gX9_init_X2_init_n48 : GoodIn wsX9_init (wsX2_init) := ggX9_init_X2_init
set_option maxRecDepth 20000 in
theorem ggX9_init_X6_init : GoodIn wsX9_init wsX6_init := goodIn_r _ [96, 97, 2, 3, 98, 25, 26, 99, 100, 101, 102, 103, 87, 88, 89, 40, 90, 91, 92, 93, 159, 160, 161, 162, 163, 164, 165, 166] (by decide +kernel) (by decide +kernel)
set_option maxRecDepth 20000 in
theorem gX9_init_X6_init : GoodIn wsX9_init (wsX6_init) := ggX9_init_X6_init
set_option maxRecDepth 20000 in
theorem ggX9_init_X4_init : GoodIn wsX9_init wsX4_init := goodIn_r _ [106, 107, 2, 3, 40, 108, 109, 110, 111, 112, 113, 167, 168, 169, 170, 171, 172] (by decide +kernel) (by decide +kernel)
set_option maxRecDepth 20000 in
theorem gX9_init_X4_init : GoodIn wsX9_init (wsX4_init) := ggX9_init_X4_init
set_option maxRecDepth 20000 in
theorem ggX9_init_X0_init : GoodIn wsX9_init wsX0_init := goodIn_r _ [115, 116, 2, 3, 40, 117, 118, 119, 120, 121, 173, 174, 175, 176, 177] (by decide +kernel) (by decide +kernel)
set_option maxRecDepth 20000 in
theorem gX9_init_X0_init_n73 : GoodIn wsX9_init (wsX0_init) := ggX9_init_X0_init
set_option maxRecDepth 20000 in
theorem ggX9_init_X2_append : GoodIn wsX9_init wsX2_append := goodIn_r _ [125, 93, 90, 92, 159, 160, 161] (by decide +kernel) (by decide +kernel)
set_option maxRecDepth 20000 in
theorem gX9_init_X2_append : GoodIn wsX9_init (wsV RX9 86 RX2 yX2_append wsX2_append) := goodIn_app (goodIn_of _ (by decide +kernel)) ggX9_init_X2_append
set_option maxRecDepth 20000 in
theorem ggX9_ploughman_X9_isBelow : GoodIn wsX9_ploughman wsX9_isBelow := goodIn_r _ [7] (by decide +kernel) (by decide +kernel)
set_option maxRecDepth 20000 in
theorem gX9_ploughman_X9_isBelow : GoodIn wsX9_ploughman (va_wsS RX9 90 yX9_isBelow wsX9_isBelow) := goodIn_app (goodIn_of _ (by decide +kernel)) ggX9_ploughman_X9_isBelow
set_option maxRecDepth 20000 in
theorem ggX9_ploughman_X9_requireArgument : GoodIn wsX9_ploughman wsX9_requireArgument := goodIn_ca (goodIn_r _ [10, 11, 12] (by decide +kernel) (by decide +kernel)) (goodIn_sub (fun _ h => List.mem_cons_of_mem _ (List.mem_append_right _ h)) (by decide +kernel))
set_option maxRecDepth 20000 in
theorem gX9_ploughman_X9_requireArgument : GoodIn wsX9_ploughman (va_wsS RX9 94 yX9_requireArgument wsX9_requireArgument) := goodIn_app (goodIn_of _ (by decide +kernel)) ggX9_ploughman_X9_requireArgument
set_option maxRecDepth 20000 in
theorem ggX9_ploughman_X1_isDrawn : GoodIn wsX9_ploughman wsX1_isDrawn := goodIn_r _ [17, 18, 42, 43, 44, 45, 46, 47, 48] (by decide +kernel) (by decide +kernel)
set_option maxRecDepth 20000 in
theorem gX9_ploughman_X1_isDrawn : GoodIn wsX9_ploughman (wsV RX9 98 RX1 yX1_isDrawn wsX1_isDrawn) := goodIn_app (goodIn_of _ (by decide +kernel)) ggX9_ploughman_X1_isDrawn
set_option maxRecDepth 20000 in
theorem ggX9_ploughman_X1_isFull : GoodIn wsX9_ploughman wsX1_isFull := goodIn_r _ [22, 23, 42, 43, 44, 45, 46, 47, 48] (by decide +kernel) (by decide +kernel)
set_option maxRecDepth 20000 in
theorem gX9_ploughman_X1_isFull : GoodIn wsX9_ploughman (wsV RX9 102 RX1 yX1_isFull wsX1_isFull) := goodIn_app (goodIn_of _ (by decide +kernel)) ggX9_ploughman_X1_isFull
set_option maxRecDepth 20000 in
theorem ggX9_ploughman_X1_enter : GoodIn wsX9_ploughman wsX1_enter := goodIn_r _ [27, 23, 28, 29, 30, 42, 43, 44, 45, 46, 47, 48] (by decide +kernel) (by decide +kernel)
set_option maxRecDepth 20000 in
theorem gX9_ploughman_X1_enter : GoodIn wsX9_ploughman (wsV RX9 112 RX1 yX1_enter wsX1_enter) := goodIn_app (goodIn_of _ (by decide +kernel)) ggX9_ploughman_X1_enter
set_option maxRecDepth 20000 in
theorem ggX9_noise_X3_append : GoodIn wsX9_noise wsX3_append := goodIn_r _ [6, 7, 8, 20, 21] (by decide +kernel) (by decide +kernel)
set_option maxRecDepth 20000 in
theorem gX9_noise_X3_append : GoodIn wsX9_noise (wsV RX9 116 RX3 yX3_append wsX3_append) := goodIn_app (goodIn_of _ (by decide +kernel)) ggX9_noise_X3_append
set_option maxRecDepth 20000 in
theorem ggX9_draw_X1_isDrawn : GoodIn wsX9_draw wsX1_isDrawn := goodIn_r _ [10, 11, 59, 60, 61, 62, 63, 64, 65] (by decide +kernel) (by decide +kernel)
set_option maxRecDepth 20000 in
theorem gX9_draw_X1_isDrawn : GoodIn wsX9_draw (wsV RX9 98 RX1 yX1_isDrawn wsX1_isDrawn) := goodIn_app (goodIn_of _ (by decide +kernel)) ggX9_draw_X1_isDrawn
set_option maxRecDepth 20000 in
theorem ggX9_draw_X1_size : GoodIn wsX9_draw wsX1_size := goodIn_r _ [15, 16, 59, 60, 61, 62, 63, 64, 65] (by decide +kernel) (by decide +kernel)
set_option maxRecDepth 20000 in
theorem gX9_draw_X1_size : GoodIn wsX9_draw (wsV RX9 121 RX1 yX1_size wsX1_size) := goodIn_app (goodIn_of _ (by decide +kernel)) ggX9_draw_X1_size
set_option maxRecDepth 20000 in
theorem ggX9_draw_X3_size : GoodIn wsX9_draw wsX3_size := goodIn_r _ [21, 22, 66, 67] (by decide +kernel) (by decide +kernel)
set_option maxRecDepth 20000 in
theorem gX9_draw_X3_size : GoodIn wsX9_draw (wsV RX9 125 RX3 yX3_size wsX3_size) := goodIn_app (goodIn_of _ (by decide +kernel)) ggX9_draw_X3_size
set_option maxRecDepth 20000 in
theorem ggX9_draw_X1_drawBy : GoodIn wsX9_draw wsX1_drawBy := goodIn_r _ [26, 16, 27, 28, 11, 29, 30, 31, 20, 32, 22, 33, 34, 35, 36, 37, 59, 60, 61, 62, 63, 64, 65, 66, 67] (by decide +kernel) (by decide +kernel)
set_option maxRecDepth 20000 in
theorem gX9_draw_X1_drawBy : GoodIn wsX9_draw (wsV RX9 126 RX1 yX1_drawBy wsX1_drawBy) := goodIn_app (goodIn_of _ (by decide +kernel)) ggX9_draw_X1_drawBy
set_option maxRecDepth 20000 in
theorem ggX9_draw_X3_clear : GoodIn wsX9_draw wsX3_clear := goodIn_r _ [41, 22, 66, 67] (by decide +kernel) (by decide +kernel)
set_option maxRecDepth 20000 in
theorem gX9_draw_X3_clear : GoodIn wsX9_draw (wsV RX9 130 RX3 yX3_clear wsX3_clear) := goodIn_app (goodIn_of _ (by decide +kernel)) ggX9_draw_X3_clear
set_option maxRecDepth 20000 in
theorem ggX9_draw_X7_open : GoodIn wsX9_draw wsX7_open := goodIn_r _ [46, 47, 68, 69, 70, 71, 72, 73, 74] (by decide +kernel) (by decide +kernel)
set_option maxRecDepth 20000 in
theorem gX9_draw_X7_open : GoodIn wsX9_draw (wsV RX9 133 RX7 yX7_open wsX7_open) := goodIn_app (goodIn_of _ (by decide +kernel)) ggX9_draw_X7_open
set_option maxRecDepth 20000 in
theorem ggX9_plot_X1_size : GoodIn wsX9_plot wsX1_size := goodIn_r _ [6, 7, 38, 39, 40, 41, 42, 43, 44] (by decide +kernel) (by decide +kernel)
set_option maxRecDepth 20000 in
theorem gX9_plot_X1_size : GoodIn wsX9_plot (wsV RX9 121 RX1 yX1_size wsX1_size) := goodIn_app (goodIn_of _ (by decide +kernel)) ggX9_plot_X1_size
set_option maxRecDepth 20000 in
theorem ggX9_plot_X9_requireIndex : GoodIn wsX9_plot wsX9_requireIndex := goodIn_ca (goodIn_r _ [11, 12, 13, 14, 15, 10, 16] (by decide +kernel) (by decide +kernel)) (goodIn_sub (fun _ h => List.mem_cons_of_mem _ (List.mem_append_right _ h)) (by decide +kernel))
set_option maxRecDepth 20000 in
theorem gX9_plot_X9_requireIndex : GoodIn wsX9_plot (va_wsS RX9 137 yX9_requireIndex wsX9_requireIndex) := goodIn_app (goodIn_of _ (by decide +kernel)) ggX9_plot_X9_requireIndex
set_option maxRecDepth 20000 in
theorem ggX9_plot_X1_isDrawn : GoodIn wsX9_plot wsX1_isDrawn := goodIn_r _ [20, 21, 38, 39, 40, 41, 42, 43, 44] (by decide +kernel) (by decide +kernel)
set_option maxRecDepth 20000 in
theorem gX9_plot_X1_isDrawn : GoodIn wsX9_plot (wsV RX9 98 RX1 yX1_isDrawn wsX1_isDrawn) := goodIn_app (goodIn_of _ (by decide +kernel)) ggX9_plot_X1_isDrawn
set_option maxRecDepth 20000 in
theorem ggX9_plot_X1_plotOf : GoodIn wsX9_plot wsX1_plotOf := goodIn_r _ [25, 26, 38, 39, 40, 41, 42, 43, 44] (by decide +kernel) (by decide +kernel)
set_option maxRecDepth 20000 in
theorem gX9_plot_X1_plotOf : GoodIn wsX9_plot (wsV RX9 141 RX1 yX1_plotOf wsX1_plotOf) := goodIn_app (goodIn_of _ (by decide +kernel)) ggX9_plot_X1_plotOf
set_option maxRecDepth 20000 in
theorem ggX9_mark_X1_plots : GoodIn wsX9_mark wsX1_plots := goodIn_r _ [7, 8, 9, 87, 88, 89, 90, 91, 92, 93] (by decide +kernel) (by decide +kernel)
set_option maxRecDepth 20000 in
theorem gX9_mark_X1_plots : GoodIn wsX9_mark (wsV RX9 144 RX1 yX1_plots wsX1_plots) := goodIn_app (goodIn_of _ (by decide +kernel)) ggX9_mark_X1_plots
set_option maxRecDepth 20000 in
theorem ggX9_mark_X9_requireIndex : GoodIn wsX9_mark wsX9_requireIndex := goodIn_ca (goodIn_r _ [13, 14, 15, 16, 17, 12, 18] (by decide +kernel) (by decide +kernel)) (goodIn_sub (fun _ h => List.mem_cons_of_mem _ (List.mem_append_left _ (List.mem_append_right _ h))) (by decide +kernel))
set_option maxRecDepth 20000 in
theorem gX9_mark_X9_requireIndex : GoodIn wsX9_mark (va_wsS RX9 137 yX9_requireIndex wsX9_requireIndex) := goodIn_app (goodIn_of _ (by decide +kernel)) ggX9_mark_X9_requireIndex
set_option maxRecDepth 20000 in
theorem ggX9_mark_X9_isBelow : GoodIn wsX9_mark wsX9_isBelow := goodIn_r _ [18] (by decide +kernel) (by decide +kernel)
set_option maxRecDepth 20000 in
theorem gX9_mark_X9_isBelow : GoodIn wsX9_mark (va_wsS RX9 90 yX9_isBelow wsX9_isBelow) := goodIn_app (goodIn_of _ (by decide +kernel)) ggX9_mark_X9_isBelow
set_option maxRecDepth 20000 in
theorem ggX9_mark_X9_requireArgument : GoodIn wsX9_mark wsX9_requireArgument := goodIn_ca (goodIn_r _ [21, 22, 23] (by decide +kernel) (by decide +kernel)) (goodIn_sub (fun _ h => List.mem_cons_of_mem _ (List.mem_append_right _ h)) (by decide +kernel))
set_option maxRecDepth 20000 in
theorem gX9_mark_X9_requireArgument : GoodIn wsX9_mark (va_wsS RX9 94 yX9_requireArgument wsX9_requireArgument) := goodIn_app (goodIn_of _ (by decide +kernel)) ggX9_mark_X9_requireArgument
set_option maxRecDepth 20000 in
theorem ggX9_mark_X7_put : GoodIn wsX9_mark wsX7_put := goodIn_r _ [28, 29, 30, 31, 32, 27, 33, 34, 35, 36, 37, 38, 39, 40, 41, 42, 43, 44, 45, 46, 47, 48, 49, 50, 51, 52, 53, 54, 55, 56, 57, 58, 59, 60, 61, 62, 63, 64, 65, 66, 67, 68, 69, 70, 71, 72, 73, 74, 75, 94, 95, 96, 97, 98, 99, 100] (by decide +kernel) (by decide +kernel)
set_option maxRecDepth 20000 in
theorem gX9_mark_X7_put : GoodIn wsX9_mark (wsV RX9 147 RX7 yX7_put wsX7_put) := goodIn_app (goodIn_of _ (by decide +kernel)) ggX9_mark_X7_put
set_option maxRecDepth 20000 in
theorem ggX9_hard_X9_isBelow : GoodIn wsX9_hard wsX9_isBelow := goodIn_r _ [5] (by decide +kernel) (by decide +kernel)
set_option maxRecDepth 20000 in
theorem gX9_hard_X9_isBelow : GoodIn wsX9_hard (va_wsS RX9 90 yX9_isBelow wsX9_isBelow) := goodIn_app (goodIn_of _ (by decide +kernel)) ggX9_hard_X9_isBelow
set_option maxRecDepth 20000 in
theorem ggX9_hard_X9_requireArgument : GoodIn wsX9_hard wsX9_requireArgument := goodIn_ca (goodIn_r _ [8, 9, 10] (by decide +kernel) (by decide +kernel)) (goodIn_sub (fun _ h => List.mem_cons_of_mem _ (List.mem_append_right _ h)) (by decide +kernel))
set_option maxRecDepth 20000 in
theorem gX9_hard_X9_requireArgument : GoodIn wsX9_hard (va_wsS RX9 94 yX9_requireArgument wsX9_requireArgument) := goodIn_app (goodIn_of _ (by decide +kernel)) ggX9_hard_X9_requireArgument
set_option maxRecDepth 20000 in
theorem ggX9_hard_X7_hardOf : GoodIn wsX9_hard wsX7_hardOf := goodIn_r _ [15, 16, 28, 29, 30, 31, 32, 33, 34] (by decide +kernel) (by decide +kernel)
set_option maxRecDepth 20000 in
theorem gX9_hard_X7_hardOf : GoodIn wsX9_hard (wsV RX9 151 RX7 yX7_hardOf wsX7_hardOf) := goodIn_app (goodIn_of _ (by decide +kernel)) ggX9_hard_X7_hardOf
set_option maxRecDepth 20000 in
theorem ggX9_told_X1_plots : GoodIn wsX9_told wsX1_plots := goodIn_r _ [7, 8, 9, 41, 42, 43, 44, 45, 46, 47] (by decide +kernel) (by decide +kernel)
set_option maxRecDepth 20000 in
theorem gX9_told_X1_plots : GoodIn wsX9_told (wsV RX9 144 RX1 yX1_plots wsX1_plots) := goodIn_app (goodIn_of _ (by decide +kernel)) ggX9_told_X1_plots
set_option maxRecDepth 20000 in
theorem ggX9_told_X9_requireIndex : GoodIn wsX9_told wsX9_requireIndex := goodIn_ca (goodIn_r _ [13, 14, 15, 16, 17, 12, 18] (by decide +kernel) (by decide +kernel)) (goodIn_sub (fun _ h => List.mem_cons_of_mem _ (List.mem_append_left _ (List.mem_append_right _ h))) (by decide +kernel))
set_option maxRecDepth 20000 in
theorem gX9_told_X9_requireIndex : GoodIn wsX9_told (va_wsS RX9 137 yX9_requireIndex wsX9_requireIndex) := goodIn_app (goodIn_of _ (by decide +kernel)) ggX9_told_X9_requireIndex
set_option maxRecDepth 20000 in
theorem ggX9_told_X9_isBelow : GoodIn wsX9_told wsX9_isBelow := goodIn_r _ [18] (by decide +kernel) (by decide +kernel)
set_option maxRecDepth 20000 in
theorem gX9_told_X9_isBelow : GoodIn wsX9_told (va_wsS RX9 90 yX9_isBelow wsX9_isBelow) := goodIn_app (goodIn_of _ (by decide +kernel)) ggX9_told_X9_isBelow
set_option maxRecDepth 20000 in
theorem ggX9_told_X9_requireArgument : GoodIn wsX9_told wsX9_requireArgument := goodIn_ca (goodIn_r _ [21, 22, 23] (by decide +kernel) (by decide +kernel)) (goodIn_sub (fun _ h => List.mem_cons_of_mem _ (List.mem_append_right _ h)) (by decide +kernel))
set_option maxRecDepth 20000 in
theorem gX9_told_X9_requireArgument : GoodIn wsX9_told (va_wsS RX9 94 yX9_requireArgument wsX9_requireArgument) := goodIn_app (goodIn_of _ (by decide +kernel)) ggX9_told_X9_requireArgument
set_option maxRecDepth 20000 in
theorem ggX9_told_X7_toldOf : GoodIn wsX9_told wsX7_toldOf := goodIn_r _ [28, 29, 48, 49, 50, 51, 52, 53, 54] (by decide +kernel) (by decide +kernel)
set_option maxRecDepth 20000 in
theorem gX9_told_X7_toldOf : GoodIn wsX9_told (wsV RX9 155 RX7 yX7_toldOf wsX7_toldOf) := goodIn_app (goodIn_of _ (by decide +kernel)) ggX9_told_X7_toldOf
set_option maxRecDepth 20000 in
theorem ggX9_about_X1_plots : GoodIn wsX9_about wsX1_plots := goodIn_r _ [10, 11, 12, 82, 83, 84, 85, 86, 87, 88] (by decide +kernel) (by decide +kernel)
set_option maxRecDepth 20000 in
theorem gX9_about_X1_plots : GoodIn wsX9_about (wsV RX9 144 RX1 yX1_plots wsX1_plots) := goodIn_app (goodIn_of _ (by decide +kernel)) ggX9_about_X1_plots
set_option maxRecDepth 20000 in
theorem ggX9_about_X9_requireIndex : GoodIn wsX9_about wsX9_requireIndex := goodIn_ca (goodIn_r _ [16, 17, 18, 19, 20, 15, 21] (by decide +kernel) (by decide +kernel)) (goodIn_sub (fun _ h => List.mem_cons_of_mem _ (List.mem_append_right _ h)) (by decide +kernel))
set_option maxRecDepth 20000 in
theorem gX9_about_X9_requireIndex : GoodIn wsX9_about (va_wsS RX9 137 yX9_requireIndex wsX9_requireIndex) := goodIn_app (goodIn_of _ (by decide +kernel)) ggX9_about_X9_requireIndex
set_option maxRecDepth 20000 in
theorem ggX9_about_X7_sumOf : GoodIn wsX9_about wsX7_sumOf := goodIn_r _ [26, 27, 89, 90, 91, 92, 93, 94, 95] (by decide +kernel) (by decide +kernel)
set_option maxRecDepth 20000 in
theorem gX9_about_X7_sumOf : GoodIn wsX9_about (wsV RX9 158 RX7 yX7_sumOf wsX7_sumOf) := goodIn_app (goodIn_of _ (by decide +kernel)) ggX9_about_X7_sumOf
set_option maxRecDepth 20000 in
theorem ggX9_about_X7_untoldOf : GoodIn wsX9_about wsX7_untoldOf := goodIn_r _ [31, 32, 33, 34, 35, 25, 36, 37, 89, 90, 91, 92, 93, 94, 95] (by decide +kernel) (by decide +kernel)
set_option maxRecDepth 20000 in
theorem gX9_about_X7_untoldOf : GoodIn wsX9_about (wsV RX9 161 RX7 yX7_untoldOf wsX7_untoldOf) := goodIn_app (goodIn_of _ (by decide +kernel)) ggX9_about_X7_untoldOf
set_option maxRecDepth 20000 in
theorem ggX9_about_X7_groundOf : GoodIn wsX9_about wsX7_groundOf := goodIn_r _ [41, 42, 89, 90, 91, 92, 93, 94, 95] (by decide +kernel) (by decide +kernel)
set_option maxRecDepth 20000 in
theorem gX9_about_X7_groundOf : GoodIn wsX9_about (wsV RX9 164 RX7 yX7_groundOf wsX7_groundOf) := goodIn_app (goodIn_of _ (by decide +kernel)) ggX9_about_X7_groundOf
set_option maxRecDepth 20000 in
theorem ggX9_about_X5_minutesOf : GoodIn wsX9_about wsX5_minutesOf := goodIn_r _ [47, 48, 96, 97, 98, 99] (by decide +kernel) (by decide +kernel)
set_option maxRecDepth 20000 in
theorem gX9_about_X5_minutesOf : GoodIn wsX9_about (wsV RX9 167 RX5 yX5_minutesOf wsX5_minutesOf) := goodIn_app (goodIn_of _ (by decide +kernel)) ggX9_about_X5_minutesOf
set_option maxRecDepth 20000 in
theorem ggX9_about_X5_takenOff : GoodIn wsX9_about wsX5_takenOff := goodIn_r _ [52, 53, 96, 97, 98, 99] (by decide +kernel) (by decide +kernel)
set_option maxRecDepth 20000 in
theorem gX9_about_X5_takenOff : GoodIn wsX9_about (wsV RX9 170 RX5 yX5_takenOff wsX5_takenOff) := goodIn_app (goodIn_of _ (by decide +kernel)) ggX9_about_X5_takenOff
set_option maxRecDepth 20000 in
theorem ggX9_about_X5_finalOf : GoodIn wsX9_about wsX5_finalOf := goodIn_r _ [57, 58, 53, 59, 23, 24, 25, 26, 27, 60, 39, 40, 41, 42, 61, 62, 63, 46, 64, 48, 65, 96, 97, 98, 99, 89, 90, 91, 92, 93, 94, 95] (by decide +kernel) (by decide +kernel)
set_option maxRecDepth 20000 in
theorem gX9_about_X5_finalOf : GoodIn wsX9_about (wsV RX9 173 RX5 yX5_finalOf wsX5_finalOf) := goodIn_app (goodIn_of _ (by decide +kernel)) ggX9_about_X5_finalOf
set_option maxRecDepth 20000 in
theorem ggX9_about_X1_ploughmanOf : GoodIn wsX9_about wsX1_ploughmanOf := goodIn_r _ [69, 70, 82, 83, 84, 85, 86, 87, 88] (by decide +kernel) (by decide +kernel)
set_option maxRecDepth 20000 in
theorem gX9_about_X1_ploughmanOf : GoodIn wsX9_about (wsV RX9 176 RX1 yX1_ploughmanOf wsX1_ploughmanOf) := goodIn_app (goodIn_of _ (by decide +kernel)) ggX9_about_X1_ploughmanOf
set_option maxRecDepth 20000 in
theorem ggX9_minutes_X1_plots : GoodIn wsX9_minutes wsX1_plots := goodIn_r _ [7, 8, 9, 41, 42, 43, 44, 45, 46, 47] (by decide +kernel) (by decide +kernel)
set_option maxRecDepth 20000 in
theorem gX9_minutes_X1_plots : GoodIn wsX9_minutes (wsV RX9 144 RX1 yX1_plots wsX1_plots) := goodIn_app (goodIn_of _ (by decide +kernel)) ggX9_minutes_X1_plots
set_option maxRecDepth 20000 in
theorem ggX9_minutes_X9_requireIndex : GoodIn wsX9_minutes wsX9_requireIndex := goodIn_ca (goodIn_r _ [13, 14, 15, 16, 17, 12, 18] (by decide +kernel) (by decide +kernel)) (goodIn_sub (fun _ h => List.mem_cons_of_mem _ (List.mem_append_left _ (List.mem_append_right _ h))) (by decide +kernel))
set_option maxRecDepth 20000 in
theorem gX9_minutes_X9_requireIndex : GoodIn wsX9_minutes (va_wsS RX9 137 yX9_requireIndex wsX9_requireIndex) := goodIn_app (goodIn_of _ (by decide +kernel)) ggX9_minutes_X9_requireIndex
set_option maxRecDepth 20000 in
theorem ggX9_minutes_X9_requireArgument : GoodIn wsX9_minutes wsX9_requireArgument := goodIn_ca (goodIn_r _ [21, 22, 23] (by decide +kernel) (by decide +kernel)) (goodIn_sub (fun _ h => List.mem_cons_of_mem _ (List.mem_append_right _ h)) (by decide +kernel))
set_option maxRecDepth 20000 in
theorem gX9_minutes_X9_requireArgument : GoodIn wsX9_minutes (va_wsS RX9 94 yX9_requireArgument wsX9_requireArgument) := goodIn_app (goodIn_of _ (by decide +kernel)) ggX9_minutes_X9_requireArgument
set_option maxRecDepth 20000 in
theorem ggX9_minutes_X5_setMinutes : GoodIn wsX9_minutes wsX5_setMinutes := goodIn_r _ [28, 29, 48, 49, 50, 51] (by decide +kernel) (by decide +kernel)
set_option maxRecDepth 20000 in
theorem gX9_minutes_X5_setMinutes : GoodIn wsX9_minutes (wsV RX9 184 RX5 yX5_setMinutes wsX5_setMinutes) := goodIn_app (goodIn_of _ (by decide +kernel)) ggX9_minutes_X5_setMinutes
set_option maxRecDepth 20000 in
theorem ggX9_limit_X9_requireArgument : GoodIn wsX9_limit wsX9_requireArgument := goodIn_ca (goodIn_r _ [5, 6, 7] (by decide +kernel) (by decide +kernel)) (goodIn_sub (fun _ h => List.mem_cons_of_mem _ (List.mem_append_right _ h)) (by decide +kernel))
set_option maxRecDepth 20000 in
theorem gX9_limit_X9_requireArgument : GoodIn wsX9_limit (va_wsS RX9 94 yX9_requireArgument wsX9_requireArgument) := goodIn_app (goodIn_of _ (by decide +kernel)) ggX9_limit_X9_requireArgument
set_option maxRecDepth 20000 in
theorem ggX9_limit_X5_setLimit : GoodIn wsX9_limit wsX5_setLimit := goodIn_r _ [12, 13, 25, 26, 27, 28] (by decide +kernel) (by decide +kernel)
set_option maxRecDepth 20000 in
theorem gX9_limit_X5_setLimit : GoodIn wsX9_limit (wsV RX9 187 RX5 yX5_setLimit wsX5_setLimit) := goodIn_app (goodIn_of _ (by decide +kernel)) ggX9_limit_X5_setLimit
set_option maxRecDepth 20000 in
theorem ggX9_feed_X8_hasRoom : GoodIn wsX9_feed wsX8_hasRoom := goodIn_r _ [6, 7, 28, 29] (by decide +kernel) (by decide +kernel)
set_option maxRecDepth 20000 in
theorem gX9_feed_X8_hasRoom : GoodIn wsX9_feed (wsV RX9 190 RX8 yX8_hasRoom wsX8_hasRoom) := goodIn_app (goodIn_of _ (by decide +kernel)) ggX9_feed_X8_hasRoom
set_option maxRecDepth 20000 in
theorem ggX9_feed_X8_append : GoodIn wsX9_feed wsX8_append := goodIn_r _ [11, 7, 12, 28, 29] (by decide +kernel) (by decide +kernel)
set_option maxRecDepth 20000 in
theorem gX9_feed_X8_append : GoodIn wsX9_feed (wsV RX9 193 RX8 yX8_append wsX8_append) := goodIn_app (goodIn_of _ (by decide +kernel)) ggX9_feed_X8_append
set_option maxRecDepth 20000 in
theorem ggX9_feed_X8_size : GoodIn wsX9_feed wsX8_size := goodIn_r _ [16, 7, 28, 29] (by decide +kernel) (by decide +kernel)
set_option maxRecDepth 20000 in
theorem gX9_feed_X8_size : GoodIn wsX9_feed (wsV RX9 195 RX8 yX8_size wsX8_size) := goodIn_app (goodIn_of _ (by decide +kernel)) ggX9_feed_X8_size
set_option maxRecDepth 20000 in
theorem ggX9_rule_X8_size : GoodIn wsX9_rule wsX8_size := goodIn_r _ [8, 9, 150, 151] (by decide +kernel) (by decide +kernel)
set_option maxRecDepth 20000 in
theorem gX9_rule_X8_size : GoodIn wsX9_rule (wsV RX9 195 RX8 yX8_size wsX8_size) := goodIn_app (goodIn_of _ (by decide +kernel)) ggX9_rule_X8_size
set_option maxRecDepth 20000 in
theorem ggX9_rule_X9_requireArgument : GoodIn wsX9_rule wsX9_requireArgument := goodIn_ca (goodIn_r _ [13, 14, 15] (by decide +kernel) (by decide +kernel)) (goodIn_sub (fun _ h => List.mem_cons_of_mem _ (List.mem_append_right _ h)) (by decide +kernel))
set_option maxRecDepth 20000 in
theorem gX9_rule_X9_requireArgument : GoodIn wsX9_rule (va_wsS RX9 94 yX9_requireArgument wsX9_requireArgument) := goodIn_app (goodIn_of _ (by decide +kernel)) ggX9_rule_X9_requireArgument
set_option maxRecDepth 20000 in
theorem ggX9_rule_X8_cut : GoodIn wsX9_rule wsX8_cut := goodIn_r _ [19, 9, 150, 151] (by decide +kernel) (by decide +kernel)
set_option maxRecDepth 20000 in
theorem gX9_rule_X8_cut : GoodIn wsX9_rule (wsV RX9 196 RX8 yX8_cut wsX8_cut) := goodIn_app (goodIn_of _ (by decide +kernel)) ggX9_rule_X8_cut
set_option maxRecDepth 20000 in
theorem ggX9_rule_X6_read : GoodIn wsX9_rule wsX6_read := goodIn_r _ [24, 25, 26, 27, 28, 29, 5, 6, 7, 8, 9, 30, 31, 32, 33, 34, 35, 36, 37, 38, 23, 39, 40, 41, 42, 43, 44, 45, 46, 47, 48, 49, 50, 51, 52, 53, 54, 55, 56, 57, 58, 59, 60, 61, 62, 63, 64, 65, 66, 67, 68, 69, 70, 71, 72, 73, 74, 75, 76, 77, 78, 79, 80, 81, 82, 83, 84, 85, 86, 87, 88, 89, 90, 91, 92, 93, 94, 95, 96, 97, 98, 99, 100, 101, 102, 103, 104, 105, 106, 107, 108, 109, 110, 111, 112, 113, 114, 115, 116, 117, 118, 119, 120, 152, 153, 154, 155, 156, 150, 151, 157, 158, 159] (by decide +kernel) (by decide +kernel)
set_option maxRecDepth 20000 in
theorem gX9_rule_X6_read : GoodIn wsX9_rule (wsV RX9 199 RX6 yX6_read wsX6_read) := goodIn_app (goodIn_of _ (by decide +kernel)) ggX9_rule_X6_read
set_option maxRecDepth 20000 in
theorem ggX9_rule_X6_place : GoodIn wsX9_rule wsX6_place := goodIn_r _ [124, 27, 152, 153, 154, 155, 156] (by decide +kernel) (by decide +kernel)
set_option maxRecDepth 20000 in
theorem gX9_rule_X6_place : GoodIn wsX9_rule (wsV RX9 202 RX6 yX6_place wsX6_place) := goodIn_app (goodIn_of _ (by decide +kernel)) ggX9_rule_X6_place
set_option maxRecDepth 20000 in
theorem ggX9_rule_X6_draft : GoodIn wsX9_rule wsX6_draft := goodIn_r _ [128, 28, 152, 153, 154, 155, 156] (by decide +kernel) (by decide +kernel)
set_option maxRecDepth 20000 in
theorem gX9_rule_X6_draft : GoodIn wsX9_rule (wsV RX9 205 RX6 yX6_draft wsX6_draft) := goodIn_app (goodIn_of _ (by decide +kernel)) ggX9_rule_X6_draft
set_option maxRecDepth 20000 in
theorem ggX9_rule_X2_copyFrom : GoodIn wsX9_rule wsX2_copyFrom := goodIn_r _ [132, 35, 119, 120, 133, 31, 32, 33, 34, 134, 116, 117, 118, 157, 158, 159] (by decide +kernel) (by decide +kernel)
set_option maxRecDepth 20000 in
theorem gX9_rule_X2_copyFrom : GoodIn wsX9_rule (wsV RX9 209 RX2 yX2_copyFrom wsX2_copyFrom) := goodIn_app (goodIn_of _ (by decide +kernel)) ggX9_rule_X2_copyFrom
set_option maxRecDepth 20000 in
theorem ggX9_rule_X2_size : GoodIn wsX9_rule wsX2_size := goodIn_r _ [138, 35, 157, 158, 159] (by decide +kernel) (by decide +kernel)
set_option maxRecDepth 20000 in
theorem gX9_rule_X2_size : GoodIn wsX9_rule (wsV RX9 213 RX2 yX2_size wsX2_size) := goodIn_app (goodIn_of _ (by decide +kernel)) ggX9_rule_X2_size
set_option maxRecDepth 20000 in
theorem ggX9_rank_X9_isBelow : GoodIn wsX9_rank wsX9_isBelow := goodIn_r _ [6] (by decide +kernel) (by decide +kernel)
set_option maxRecDepth 20000 in
theorem gX9_rank_X9_isBelow : GoodIn wsX9_rank (va_wsS RX9 90 yX9_isBelow wsX9_isBelow) := goodIn_app (goodIn_of _ (by decide +kernel)) ggX9_rank_X9_isBelow
