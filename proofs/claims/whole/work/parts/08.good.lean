set_option maxRecDepth 20000 in
theorem ggX0_write_X0_linesDue : GoodIn wsX0_write wsX0_linesDue := goodIn_r _ [10, 2, 11, 12, 13, 14, 15] (by decide +kernel) (by decide +kernel)
set_option maxRecDepth 20000 in
theorem gX0_write_X0_linesDue : GoodIn wsX0_write (wsV RX0 28 RX0 yX0_linesDue wsX0_linesDue) := goodIn_app (goodIn_of _ (by decide +kernel)) ggX0_write_X0_linesDue
set_option maxRecDepth 20000 in
theorem ggX1_drawBy_X3_remainder : GoodIn wsX1_drawBy wsX3_remainder := goodIn_r _ [9, 10, 11, 12, 13, 14, 15, 23, 24] (by decide +kernel) (by decide +kernel)
set_option maxRecDepth 20000 in
theorem gX1_drawBy_X3_remainder : GoodIn wsX1_drawBy (wsV RX1 35 RX3 yX3_remainder wsX3_remainder) := goodIn_app (goodIn_of _ (by decide +kernel)) ggX1_drawBy_X3_remainder
set_option maxRecDepth 20000 in
theorem ggX2_copyFrom_X2_clear : GoodIn wsX2_copyFrom wsX2_clear := goodIn_r _ [8, 1, 13, 14, 15] (by decide +kernel) (by decide +kernel)
set_option maxRecDepth 20000 in
theorem gX2_copyFrom_X2_clear : GoodIn wsX2_copyFrom (wsV RX2 23 RX2 yX2_clear wsX2_clear) := goodIn_app (goodIn_of _ (by decide +kernel)) ggX2_copyFrom_X2_clear
set_option maxRecDepth 20000 in
theorem ggX2_copyFrom_X2_append : GoodIn wsX2_copyFrom wsX2_append := goodIn_r _ [12, 1, 2, 3, 13, 14, 15] (by decide +kernel) (by decide +kernel)
set_option maxRecDepth 20000 in
theorem gX2_copyFrom_X2_append : GoodIn wsX2_copyFrom (wsV RX2 26 RX2 yX2_append wsX2_append) := goodIn_app (goodIn_of _ (by decide +kernel)) ggX2_copyFrom_X2_append
set_option maxRecDepth 20000 in
theorem ggX3_remainder_X9_isBelow : GoodIn wsX3_remainder wsX9_isBelow := goodIn_r _ [6] (by decide +kernel) (by decide +kernel)
set_option maxRecDepth 20000 in
theorem gX3_remainder_X9_isBelow_n19 : GoodIn wsX3_remainder (wsX9_isBelow) := ggX3_remainder_X9_isBelow
set_option maxRecDepth 20000 in
theorem ggX4_arrange_X1_size : GoodIn wsX4_arrange wsX1_size := goodIn_r _ [8, 9, 93, 94, 95, 96, 97, 98, 99] (by decide +kernel) (by decide +kernel)
set_option maxRecDepth 20000 in
theorem gX4_arrange_X1_size : GoodIn wsX4_arrange (wsV RX4 35 RX1 yX1_size wsX1_size) := goodIn_app (goodIn_of _ (by decide +kernel)) ggX4_arrange_X1_size
set_option maxRecDepth 20000 in
theorem ggX4_arrange_X1_kindOf : GoodIn wsX4_arrange wsX1_kindOf := goodIn_r _ [13, 14, 93, 94, 95, 96, 97, 98, 99] (by decide +kernel) (by decide +kernel)
set_option maxRecDepth 20000 in
theorem gX4_arrange_X1_kindOf : GoodIn wsX4_arrange (wsV RX4 40 RX1 yX1_kindOf wsX1_kindOf) := goodIn_app (goodIn_of _ (by decide +kernel)) ggX4_arrange_X1_kindOf
set_option maxRecDepth 20000 in
theorem ggX4_arrange_X4_beats : GoodIn wsX4_arrange wsX4_beats := goodIn_r _ [19, 20, 21, 22, 23, 24, 25, 26, 27, 28, 29, 30, 31, 32, 33, 34, 18, 35, 2, 36, 37, 38, 39, 40, 7, 41, 42, 43, 44, 45, 46, 47, 48, 49, 50, 51, 52, 53, 54, 55, 56, 57, 58, 59, 60, 61, 62, 63, 64, 65, 66, 67, 68, 69, 70, 71, 72, 73, 74, 75, 76, 77, 78, 79, 80, 81, 82, 83, 84, 85, 86, 87, 88, 89, 90, 91, 92, 100, 101, 102, 93, 94, 95, 96, 97, 98, 99, 103, 104, 105, 106, 107, 108, 109, 110, 111, 112, 113] (by decide +kernel) (by decide +kernel)
set_option maxRecDepth 20000 in
theorem gX4_arrange_X4_beats : GoodIn wsX4_arrange (wsV RX4 44 RX4 yX4_beats wsX4_beats) := goodIn_app (goodIn_of _ (by decide +kernel)) ggX4_arrange_X4_beats
set_option maxRecDepth 20000 in
theorem ggX4_ploughmanAt_X9_isBelow : GoodIn wsX4_ploughmanAt wsX9_isBelow := goodIn_r _ [5] (by decide +kernel) (by decide +kernel)
set_option maxRecDepth 20000 in
theorem gX4_ploughmanAt_X9_isBelow_n48 : GoodIn wsX4_ploughmanAt (wsX9_isBelow) := ggX4_ploughmanAt_X9_isBelow
set_option maxRecDepth 20000 in
theorem ggX4_beats_X2_size : GoodIn wsX4_beats wsX2_size := goodIn_r _ [6, 7, 77, 78, 79] (by decide +kernel) (by decide +kernel)
set_option maxRecDepth 20000 in
theorem gX4_beats_X2_size : GoodIn wsX4_beats (wsV RX4 51 RX2 yX2_size wsX2_size) := goodIn_app (goodIn_of _ (by decide +kernel)) ggX4_beats_X2_size
set_option maxRecDepth 20000 in
theorem ggX4_beats_X2_measureAt : GoodIn wsX4_beats wsX2_measureAt := goodIn_r _ [11, 12, 77, 78, 79] (by decide +kernel) (by decide +kernel)
set_option maxRecDepth 20000 in
theorem gX4_beats_X2_measureAt : GoodIn wsX4_beats (wsV RX4 54 RX2 yX2_measureAt wsX2_measureAt) := goodIn_app (goodIn_of _ (by decide +kernel)) ggX4_beats_X2_measureAt
set_option maxRecDepth 20000 in
theorem ggX4_beats_X4_valueOf : GoodIn wsX4_beats wsX4_valueOf := goodIn_r _ [17, 18, 19, 20, 21, 22, 23, 24, 25, 26, 27, 28, 29, 30, 31, 32, 33, 34, 35, 36, 37, 38, 39, 40, 41, 42, 43, 44, 45, 46, 47, 48, 49, 50, 51, 52, 53, 54, 55, 56, 57, 58, 59, 60, 61, 62, 63, 64, 65, 71, 72, 73, 74, 75, 76, 80, 81, 82, 83, 84, 85, 86, 87, 88, 89, 90, 91, 92, 93, 94, 95, 96, 97] (by decide +kernel) (by decide +kernel)
set_option maxRecDepth 20000 in
theorem gX4_beats_X4_valueOf : GoodIn wsX4_beats (wsV RX4 57 RX4 yX4_valueOf wsX4_valueOf) := goodIn_app (goodIn_of _ (by decide +kernel)) ggX4_beats_X4_valueOf
set_option maxRecDepth 20000 in
theorem ggX4_beats_X2_isUp : GoodIn wsX4_beats wsX2_isUp := goodIn_r _ [69, 70, 77, 78, 79] (by decide +kernel) (by decide +kernel)
set_option maxRecDepth 20000 in
theorem gX4_beats_X2_isUp : GoodIn wsX4_beats (wsV RX4 61 RX2 yX2_isUp wsX2_isUp) := goodIn_app (goodIn_of _ (by decide +kernel)) ggX4_beats_X2_isUp
set_option maxRecDepth 20000 in
theorem ggX4_valueOf_X1_plotOf : GoodIn wsX4_valueOf wsX1_plotOf := goodIn_r _ [8, 9, 55, 56, 57, 58, 59, 60, 61] (by decide +kernel) (by decide +kernel)
set_option maxRecDepth 20000 in
theorem gX4_valueOf_X1_plotOf : GoodIn wsX4_valueOf (wsV RX4 65 RX1 yX1_plotOf wsX1_plotOf) := goodIn_app (goodIn_of _ (by decide +kernel)) ggX4_valueOf_X1_plotOf
set_option maxRecDepth 20000 in
theorem ggX4_valueOf_X5_finalOf : GoodIn wsX4_valueOf wsX5_finalOf := goodIn_r _ [14, 15, 16, 17, 18, 19, 20, 21, 22, 23, 24, 25, 26, 27, 28, 29, 30, 13, 31, 32, 33, 62, 63, 64, 65, 66, 67, 68, 69, 70, 71, 72] (by decide +kernel) (by decide +kernel)
set_option maxRecDepth 20000 in
theorem gX4_valueOf_X5_finalOf : GoodIn wsX4_valueOf (wsV RX4 68 RX5 yX5_finalOf wsX5_finalOf) := goodIn_app (goodIn_of _ (by decide +kernel)) ggX4_valueOf_X5_finalOf
set_option maxRecDepth 20000 in
theorem ggX4_valueOf_X7_sumOf : GoodIn wsX4_valueOf wsX7_sumOf := goodIn_r _ [21, 22, 66, 67, 68, 69, 70, 71, 72] (by decide +kernel) (by decide +kernel)
set_option maxRecDepth 20000 in
theorem gX4_valueOf_X7_sumOf : GoodIn wsX4_valueOf (wsV RX4 73 RX7 yX7_sumOf wsX7_sumOf) := goodIn_app (goodIn_of _ (by decide +kernel)) ggX4_valueOf_X7_sumOf
set_option maxRecDepth 20000 in
theorem ggX4_valueOf_X5_minutesOf : GoodIn wsX4_valueOf wsX5_minutesOf := goodIn_r _ [38, 32, 62, 63, 64, 65] (by decide +kernel) (by decide +kernel)
set_option maxRecDepth 20000 in
theorem gX4_valueOf_X5_minutesOf : GoodIn wsX4_valueOf (wsV RX4 78 RX5 yX5_minutesOf wsX5_minutesOf) := goodIn_app (goodIn_of _ (by decide +kernel)) ggX4_valueOf_X5_minutesOf
set_option maxRecDepth 20000 in
theorem ggX4_valueOf_X1_ageOf : GoodIn wsX4_valueOf wsX1_ageOf := goodIn_r _ [42, 43, 55, 56, 57, 58, 59, 60, 61] (by decide +kernel) (by decide +kernel)
set_option maxRecDepth 20000 in
theorem gX4_valueOf_X1_ageOf : GoodIn wsX4_valueOf (wsV RX4 81 RX1 yX1_ageOf wsX1_ageOf) := goodIn_app (goodIn_of _ (by decide +kernel)) ggX4_valueOf_X1_ageOf
set_option maxRecDepth 20000 in
theorem ggX4_valueOf_X7_toldOf : GoodIn wsX4_valueOf wsX7_toldOf := goodIn_r _ [47, 48, 66, 67, 68, 69, 70, 71, 72] (by decide +kernel) (by decide +kernel)
set_option maxRecDepth 20000 in
theorem gX4_valueOf_X7_toldOf : GoodIn wsX4_valueOf (wsV RX4 84 RX7 yX7_toldOf wsX7_toldOf) := goodIn_app (goodIn_of _ (by decide +kernel)) ggX4_valueOf_X7_toldOf
set_option maxRecDepth 20000 in
theorem ggX5_finalOf_X7_sumOf : GoodIn wsX5_finalOf wsX7_sumOf := goodIn_r _ [7, 8, 25, 26, 27, 28, 29, 30, 31] (by decide +kernel) (by decide +kernel)
set_option maxRecDepth 20000 in
theorem gX5_finalOf_X7_sumOf : GoodIn wsX5_finalOf (wsV RX5 26 RX7 yX7_sumOf wsX7_sumOf) := goodIn_app (goodIn_of _ (by decide +kernel)) ggX5_finalOf_X7_sumOf
set_option maxRecDepth 20000 in
theorem ggX5_finalOf_X7_groundOf : GoodIn wsX5_finalOf wsX7_groundOf := goodIn_r _ [12, 13, 25, 26, 27, 28, 29, 30, 31] (by decide +kernel) (by decide +kernel)
set_option maxRecDepth 20000 in
theorem gX5_finalOf_X7_groundOf : GoodIn wsX5_finalOf (wsV RX5 32 RX7 yX7_groundOf wsX7_groundOf) := goodIn_app (goodIn_of _ (by decide +kernel)) ggX5_finalOf_X7_groundOf
set_option maxRecDepth 20000 in
theorem ggX5_finalOf_X5_overtimeOf : GoodIn wsX5_finalOf wsX5_overtimeOf := goodIn_r _ [18, 19, 20, 21, 22, 23, 24] (by decide +kernel) (by decide +kernel)
set_option maxRecDepth 20000 in
theorem gX5_finalOf_X5_overtimeOf : GoodIn wsX5_finalOf (wsV RX5 35 RX5 yX5_overtimeOf wsX5_overtimeOf) := goodIn_app (goodIn_of _ (by decide +kernel)) ggX5_finalOf_X5_overtimeOf
set_option maxRecDepth 20000 in
theorem ggX6_init_X2_init : GoodIn wsX6_init wsX2_init := goodIn_r _ [13, 14, 2, 3, 15, 16, 17, 18, 19, 20, 21, 22] (by decide +kernel) (by decide +kernel)
set_option maxRecDepth 20000 in
theorem gX6_init_X2_init_n11 : GoodIn wsX6_init (wsX2_init) := ggX6_init_X2_init
set_option maxRecDepth 20000 in
theorem ggX6_read_X8_size : GoodIn wsX6_read wsX8_size := goodIn_r _ [9, 10, 108, 109] (by decide +kernel) (by decide +kernel)
set_option maxRecDepth 20000 in
theorem gX6_read_X8_size : GoodIn wsX6_read (wsV RX6 32 RX8 yX8_size wsX8_size) := goodIn_app (goodIn_of _ (by decide +kernel)) ggX6_read_X8_size
set_option maxRecDepth 20000 in
theorem ggX6_read_X2_clear : GoodIn wsX6_read wsX2_clear := goodIn_r _ [15, 16, 110, 111, 112] (by decide +kernel) (by decide +kernel)
set_option maxRecDepth 20000 in
theorem gX6_read_X2_clear : GoodIn wsX6_read (wsV RX6 38 RX2 yX2_clear wsX2_clear) := goodIn_app (goodIn_of _ (by decide +kernel)) ggX6_read_X2_clear
set_option maxRecDepth 20000 in
theorem ggX6_read_X6_readKey : GoodIn wsX6_read wsX6_readKey := goodIn_r _ [21, 22, 3, 4, 23, 24, 25, 20, 26, 27, 28, 29, 30, 2, 1, 31, 32, 33, 34, 35, 36, 37, 8, 38, 10, 39, 40, 41, 42, 43, 44, 45, 46, 47, 48, 49, 50, 51, 52, 53, 54, 55, 56, 57, 58, 59, 60, 61, 62, 63, 64, 65, 66, 67, 68, 69, 70, 71, 72, 73, 74, 75, 76, 77, 78, 79, 80, 81, 82, 83, 84, 85, 86, 87, 88, 89, 90, 91, 92, 93, 94, 95, 96, 97, 98, 99, 14, 100, 16, 101, 102, 103, 104, 105, 106, 107, 108, 109, 110, 111, 112] (by decide +kernel) (by decide +kernel)
set_option maxRecDepth 20000 in
theorem gX6_read_X6_readKey : GoodIn wsX6_read (wsV RX6 41 RX6 yX6_readKey wsX6_readKey) := goodIn_app (goodIn_of _ (by decide +kernel)) ggX6_read_X6_readKey
set_option maxRecDepth 20000 in
theorem ggX6_read_X6_skipBlanks : GoodIn wsX6_read wsX6_skipBlanks := goodIn_r _ [34, 3, 2, 1, 35, 36, 37, 8, 38, 10, 39, 103, 104, 105, 106, 107, 108, 109] (by decide +kernel) (by decide +kernel)
set_option maxRecDepth 20000 in
theorem gX6_read_X6_skipBlanks : GoodIn wsX6_read (wsV RX6 45 RX6 yX6_skipBlanks wsX6_skipBlanks) := goodIn_app (goodIn_of _ (by decide +kernel)) ggX6_read_X6_skipBlanks
set_option maxRecDepth 20000 in
theorem ggX6_read_X8_byteAt : GoodIn wsX6_read wsX8_byteAt := goodIn_r _ [38, 10, 39, 108, 109] (by decide +kernel) (by decide +kernel)
set_option maxRecDepth 20000 in
theorem gX6_read_X8_byteAt : GoodIn wsX6_read (wsV RX6 48 RX8 yX8_byteAt wsX8_byteAt) := goodIn_app (goodIn_of _ (by decide +kernel)) ggX6_read_X8_byteAt
set_option maxRecDepth 20000 in
theorem ggX6_readKey_X6_readMeasure : GoodIn wsX6_readKey wsX6_readMeasure := goodIn_r _ [8, 1, 2, 9, 10, 11, 7, 12, 13, 14, 15, 16, 17, 18, 19, 20, 21, 22, 23, 24, 25, 26, 27, 28, 29, 30, 31, 32, 33, 34, 35, 36, 37, 38, 39, 40, 41, 42, 43, 44, 45, 46, 47, 48, 49, 50, 51, 52, 53, 54, 55, 56, 57, 58, 59, 60, 61, 62, 63, 64, 65, 66, 67, 68, 69, 70, 71, 72, 73, 74, 75, 76, 77, 78, 79, 80, 81, 82, 91, 92, 93, 94, 95, 96, 97] (by decide +kernel) (by decide +kernel)
set_option maxRecDepth 20000 in
theorem gX6_readKey_X6_readMeasure : GoodIn wsX6_readKey (wsV RX6 52 RX6 yX6_readMeasure wsX6_readMeasure) := goodIn_app (goodIn_of _ (by decide +kernel)) ggX6_readKey_X6_readMeasure
set_option maxRecDepth 20000 in
theorem ggX6_readKey_X6_readWord : GoodIn wsX6_readKey wsX6_readWord := goodIn_r _ [12, 2, 1, 13, 14, 15, 16, 17, 7, 18, 19, 20, 21, 22, 23, 24, 25, 91, 92, 93, 94, 95, 96, 97] (by decide +kernel) (by decide +kernel)
set_option maxRecDepth 20000 in
theorem gX6_readKey_X6_readWord : GoodIn wsX6_readKey (wsV RX6 55 RX6 yX6_readWord wsX6_readWord) := goodIn_app (goodIn_of _ (by decide +kernel)) ggX6_readKey_X6_readWord
set_option maxRecDepth 20000 in
theorem ggX6_readKey_X6_isWord : GoodIn wsX6_readKey wsX6_isWord := goodIn_r _ [29, 2, 1, 14, 30, 31, 32, 33, 34, 35, 36, 37, 38, 39, 40, 41, 19, 20, 21, 22, 23, 24, 25, 42, 43, 44, 45, 46, 47, 48, 49, 50, 51, 52, 53, 54, 55, 56, 57, 58, 59, 60, 61, 62, 63, 64, 65, 66, 67, 68, 69, 70, 71, 72, 73, 74, 75, 76, 77, 78, 91, 92, 93, 94, 95, 96, 97] (by decide +kernel) (by decide +kernel)
set_option maxRecDepth 20000 in
theorem gX6_readKey_X6_isWord : GoodIn wsX6_readKey (wsV RX6 60 RX6 yX6_isWord wsX6_isWord) := goodIn_app (goodIn_of _ (by decide +kernel)) ggX6_readKey_X6_isWord
set_option maxRecDepth 20000 in
theorem ggX6_readKey_X2_append : GoodIn wsX6_readKey wsX2_append := goodIn_r _ [87, 88, 89, 90, 98, 99, 100] (by decide +kernel) (by decide +kernel)
set_option maxRecDepth 20000 in
theorem gX6_readKey_X2_append : GoodIn wsX6_readKey (wsV RX6 66 RX2 yX2_append wsX2_append) := goodIn_app (goodIn_of _ (by decide +kernel)) ggX6_readKey_X2_append
set_option maxRecDepth 20000 in
theorem ggX6_readMeasure_X6_readWord : GoodIn wsX6_readMeasure wsX6_readWord := goodIn_r _ [7, 2, 1, 8, 9, 10, 11, 12, 6, 13, 14, 15, 16, 17, 18, 19, 20, 78, 79, 80, 81, 82, 83, 84] (by decide +kernel) (by decide +kernel)
set_option maxRecDepth 20000 in
theorem gX6_readMeasure_X6_readWord : GoodIn wsX6_readMeasure (wsV RX6 55 RX6 yX6_readWord wsX6_readWord) := goodIn_app (goodIn_of _ (by decide +kernel)) ggX6_readMeasure_X6_readWord
set_option maxRecDepth 20000 in
theorem ggX6_readMeasure_X6_isWord : GoodIn wsX6_readMeasure wsX6_isWord := goodIn_r _ [24, 2, 1, 9, 25, 26, 27, 28, 29, 30, 31, 32, 33, 34, 35, 36, 14, 15, 16, 17, 18, 19, 20, 37, 38, 39, 40, 41, 42, 43, 44, 45, 46, 47, 48, 49, 50, 51, 52, 53, 54, 55, 56, 57, 58, 59, 60, 61, 62, 63, 64, 65, 66, 67, 68, 69, 70, 71, 72, 73, 78, 79, 80, 81, 82, 83, 84] (by decide +kernel) (by decide +kernel)
set_option maxRecDepth 20000 in
theorem gX6_readMeasure_X6_isWord : GoodIn wsX6_readMeasure (wsV RX6 60 RX6 yX6_isWord wsX6_isWord) := goodIn_app (goodIn_of _ (by decide +kernel)) ggX6_readMeasure_X6_isWord
set_option maxRecDepth 20000 in
theorem ggX6_readMeasure_X6_readPart : GoodIn wsX6_readMeasure wsX6_readPart := goodIn_r _ [77, 9, 2, 10, 11, 12, 6, 13, 8, 14, 15, 16, 17, 18, 19, 20, 78, 79, 80, 81, 82, 83, 84] (by decide +kernel) (by decide +kernel)
set_option maxRecDepth 20000 in
theorem gX6_readMeasure_X6_readPart : GoodIn wsX6_readMeasure (wsV RX6 80 RX6 yX6_readPart wsX6_readPart) := goodIn_app (goodIn_of _ (by decide +kernel)) ggX6_readMeasure_X6_readPart
set_option maxRecDepth 20000 in
theorem ggX6_readPart_X6_skipBlanks : GoodIn wsX6_readPart wsX6_skipBlanks := goodIn_r _ [7, 2, 8, 1, 9, 10, 11, 12, 13, 14, 15, 16, 17, 18, 19, 20, 21, 22] (by decide +kernel) (by decide +kernel)
set_option maxRecDepth 20000 in
theorem gX6_readPart_X6_skipBlanks : GoodIn wsX6_readPart (wsV RX6 45 RX6 yX6_skipBlanks wsX6_skipBlanks) := goodIn_app (goodIn_of _ (by decide +kernel)) ggX6_readPart_X6_skipBlanks
set_option maxRecDepth 20000 in
theorem ggX6_readPart_X8_byteAt : GoodIn wsX6_readPart wsX8_byteAt := goodIn_r _ [13, 14, 15, 21, 22] (by decide +kernel) (by decide +kernel)
set_option maxRecDepth 20000 in
theorem gX6_readPart_X8_byteAt : GoodIn wsX6_readPart (wsV RX6 48 RX8 yX8_byteAt wsX8_byteAt) := goodIn_app (goodIn_of _ (by decide +kernel)) ggX6_readPart_X8_byteAt
set_option maxRecDepth 20000 in
theorem ggX6_readWord_X6_skipBlanks : GoodIn wsX6_readWord wsX6_skipBlanks := goodIn_r _ [9, 1, 3, 4, 10, 11, 12, 13, 14, 15, 16, 17, 18, 19, 20, 21, 22, 23] (by decide +kernel) (by decide +kernel)
set_option maxRecDepth 20000 in
theorem gX6_readWord_X6_skipBlanks : GoodIn wsX6_readWord (wsV RX6 45 RX6 yX6_skipBlanks wsX6_skipBlanks) := goodIn_app (goodIn_of _ (by decide +kernel)) ggX6_readWord_X6_skipBlanks
set_option maxRecDepth 20000 in
theorem ggX6_readWord_X8_byteAt : GoodIn wsX6_readWord wsX8_byteAt := goodIn_r _ [14, 15, 16, 22, 23] (by decide +kernel) (by decide +kernel)
set_option maxRecDepth 20000 in
theorem gX6_readWord_X8_byteAt : GoodIn wsX6_readWord (wsV RX6 48 RX8 yX8_byteAt wsX8_byteAt) := goodIn_app (goodIn_of _ (by decide +kernel)) ggX6_readWord_X8_byteAt
set_option maxRecDepth 20000 in
theorem ggX6_isWord_J0_length_8abf5 : GoodIn wsX6_isWord wsJ0_length_8abf5 := goodIn_r _ [8, 9, 10, 11, 12, 7, 13, 14, 15] (by decide +kernel) (by decide +kernel)
set_option maxRecDepth 20000 in
theorem gX6_isWord_J0_length_8abf5 : GoodIn wsX6_isWord (wsV RX6 83 RJ0 yJ0_length_8abf5 wsJ0_length_8abf5) := goodIn_app (goodIn_of _ (by decide +kernel)) ggX6_isWord_J0_length_8abf5
set_option maxRecDepth 20000 in
theorem ggX6_isWord_X8_byteAt : GoodIn wsX6_isWord wsX8_byteAt := goodIn_r _ [20, 21, 22, 65, 66] (by decide +kernel) (by decide +kernel)
set_option maxRecDepth 20000 in
theorem gX6_isWord_X8_byteAt : GoodIn wsX6_isWord (wsV RX6 48 RX8 yX8_byteAt wsX8_byteAt) := goodIn_app (goodIn_of _ (by decide +kernel)) ggX6_isWord_X8_byteAt
set_option maxRecDepth 20000 in
theorem ggX6_isWord_J0_charAt_5068e : GoodIn wsX6_isWord wsJ0_charAt_5068e := goodIn_r _ [26, 9, 27, 28, 29, 7, 30, 14, 15, 31, 32, 33, 34, 35, 36, 37, 38, 39, 40, 41, 42, 43, 44, 45, 46, 47, 48, 49, 50, 51, 52, 53, 54, 55, 56, 57, 58, 59] (by decide +kernel) (by decide +kernel)
set_option maxRecDepth 20000 in
theorem gX6_isWord_J0_charAt_5068e : GoodIn wsX6_isWord (wsV RX6 87 RJ0 yJ0_charAt_5068e wsJ0_charAt_5068e) := goodIn_app (goodIn_of _ (by decide +kernel)) ggX6_isWord_J0_charAt_5068e
set_option maxRecDepth 20000 in
theorem ggX6_skipBlanks_X8_byteAt : GoodIn wsX6_skipBlanks wsX8_byteAt := goodIn_r _ [8, 9, 10, 16, 17] (by decide +kernel) (by decide +kernel)
set_option maxRecDepth 20000 in
theorem gX6_skipBlanks_X8_byteAt : GoodIn wsX6_skipBlanks (wsV RX6 48 RX8 yX8_byteAt wsX8_byteAt) := goodIn_app (goodIn_of _ (by decide +kernel)) ggX6_skipBlanks_X8_byteAt
set_option maxRecDepth 20000 in
theorem ggX7_init_J7_fill_53178 : GoodIn wsX7_init wsJ7_fill_53178 := goodIn_r _ [16] (by decide +kernel) (by decide +kernel)
set_option maxRecDepth 20000 in
theorem gX7_init_J7_fill_53178 : GoodIn wsX7_init (va_wsS RX7 34 yJ7_fill_53178 wsJ7_fill_53178) := goodIn_app (goodIn_of _ (by decide +kernel)) ggX7_init_J7_fill_53178
set_option maxRecDepth 20000 in
theorem ggX7_put_X7_placeOf : GoodIn wsX7_put wsX7_placeOf := goodIn_r _ [6] (by decide +kernel) (by decide +kernel)
set_option maxRecDepth 20000 in
theorem gX7_put_X7_placeOf : GoodIn wsX7_put (va_wsS RX7 41 yX7_placeOf wsX7_placeOf) := goodIn_app (goodIn_of _ (by decide +kernel)) ggX7_put_X7_placeOf
set_option maxRecDepth 20000 in
theorem ggX7_put_X7_workOutPart : GoodIn wsX7_put wsX7_workOutPart := goodIn_r _ [10, 11, 12, 13, 14, 15, 16, 5, 17, 1, 3, 4, 6, 18, 19, 20, 21, 22, 23, 24, 25, 26, 27, 28, 29, 30, 49, 50, 51, 52, 53, 54, 55] (by decide +kernel) (by decide +kernel)
set_option maxRecDepth 20000 in
theorem gX7_put_X7_workOutPart : GoodIn wsX7_put (wsV RX7 45 RX7 yX7_workOutPart wsX7_workOutPart) := goodIn_app (goodIn_of _ (by decide +kernel)) ggX7_put_X7_workOutPart
set_option maxRecDepth 20000 in
theorem ggX7_put_X7_workOutSums : GoodIn wsX7_put wsX7_workOutSums := goodIn_r _ [34, 12, 26, 35, 36, 37, 38, 5, 39, 13, 49, 50, 51, 52, 53, 54, 55] (by decide +kernel) (by decide +kernel)
set_option maxRecDepth 20000 in
theorem gX7_put_X7_workOutSums : GoodIn wsX7_put (wsV RX7 49 RX7 yX7_workOutSums wsX7_workOutSums) := goodIn_app (goodIn_of _ (by decide +kernel)) ggX7_put_X7_workOutSums
set_option maxRecDepth 20000 in
theorem ggX7_put_X7_workOutGrounds : GoodIn wsX7_put wsX7_workOutGrounds := goodIn_r _ [43, 12, 35, 44, 18, 19, 20, 21, 45, 46, 47, 5, 48, 49, 50, 51, 52, 53, 54, 55] (by decide +kernel) (by decide +kernel)
set_option maxRecDepth 20000 in
theorem gX7_put_X7_workOutGrounds : GoodIn wsX7_put (wsV RX7 52 RX7 yX7_workOutGrounds wsX7_workOutGrounds) := goodIn_app (goodIn_of _ (by decide +kernel)) ggX7_put_X7_workOutGrounds
set_option maxRecDepth 20000 in
theorem ggX7_untoldOf_X7_toldOf : GoodIn wsX7_untoldOf wsX7_toldOf := goodIn_r _ [6, 7, 8, 9, 10, 11, 12, 13, 14] (by decide +kernel) (by decide +kernel)
set_option maxRecDepth 20000 in
theorem gX7_untoldOf_X7_toldOf : GoodIn wsX7_untoldOf (wsV RX7 55 RX7 yX7_toldOf wsX7_toldOf) := goodIn_app (goodIn_of _ (by decide +kernel)) ggX7_untoldOf_X7_toldOf
set_option maxRecDepth 20000 in
theorem ggX7_workOutPart_X7_workOutHard : GoodIn wsX7_workOutPart wsX7_workOutHard := goodIn_r _ [8, 2, 9, 10, 11, 7, 12, 13, 14, 15, 16, 26, 27, 28, 29, 30, 31, 32] (by decide +kernel) (by decide +kernel)
set_option maxRecDepth 20000 in
theorem gX7_workOutPart_X7_workOutHard : GoodIn wsX7_workOutPart (wsV RX7 59 RX7 yX7_workOutHard wsX7_workOutHard) := goodIn_app (goodIn_of _ (by decide +kernel)) ggX7_workOutPart_X7_workOutHard
set_option maxRecDepth 20000 in
theorem ggX7_workOutPart_X7_workOutTold : GoodIn wsX7_workOutPart wsX7_workOutTold := goodIn_r _ [20, 9, 21, 10, 11, 7, 12, 22, 23, 24, 25, 1, 13, 14, 15, 16, 26, 27, 28, 29, 30, 31, 32] (by decide +kernel) (by decide +kernel)
set_option maxRecDepth 20000 in
theorem gX7_workOutPart_X7_workOutTold : GoodIn wsX7_workOutPart (wsV RX7 62 RX7 yX7_workOutTold wsX7_workOutTold) := goodIn_app (goodIn_of _ (by decide +kernel)) ggX7_workOutPart_X7_workOutTold
set_option maxRecDepth 20000 in
theorem ggX7_workOutHard_X7_placeOf : GoodIn wsX7_workOutHard wsX7_placeOf := goodIn_r _ [6] (by decide +kernel) (by decide +kernel)
set_option maxRecDepth 20000 in
theorem gX7_workOutHard_X7_placeOf : GoodIn wsX7_workOutHard (va_wsS RX7 41 yX7_placeOf wsX7_placeOf) := goodIn_app (goodIn_of _ (by decide +kernel)) ggX7_workOutHard_X7_placeOf
set_option maxRecDepth 20000 in
theorem ggX7_workOutHard_J9_floorDiv_7cf53 : GoodIn wsX7_workOutHard wsJ9_floorDiv_7cf53 := goodIn_r _ [10] (by decide +kernel) (by decide +kernel)
set_option maxRecDepth 20000 in
theorem gX7_workOutHard_J9_floorDiv_7cf53 : GoodIn wsX7_workOutHard (va_wsS RX7 65 yJ9_floorDiv_7cf53 wsJ9_floorDiv_7cf53) := goodIn_app (goodIn_of _ (by decide +kernel)) ggX7_workOutHard_J9_floorDiv_7cf53
set_option maxRecDepth 20000 in
theorem ggX7_workOutTold_X7_placeOf : GoodIn wsX7_workOutTold wsX7_placeOf := goodIn_r _ [6] (by decide +kernel) (by decide +kernel)
set_option maxRecDepth 20000 in
theorem gX7_workOutTold_X7_placeOf : GoodIn wsX7_workOutTold (va_wsS RX7 41 yX7_placeOf wsX7_placeOf) := goodIn_app (goodIn_of _ (by decide +kernel)) ggX7_workOutTold_X7_placeOf
set_option maxRecDepth 20000 in
theorem ggX7_workOutTold_X7_hardOf : GoodIn wsX7_workOutTold wsX7_hardOf := goodIn_r _ [10, 11, 16, 17, 18, 19, 20, 21, 22] (by decide +kernel) (by decide +kernel)
set_option maxRecDepth 20000 in
theorem gX7_workOutTold_X7_hardOf : GoodIn wsX7_workOutTold (wsV RX7 70 RX7 yX7_hardOf wsX7_hardOf) := goodIn_app (goodIn_of _ (by decide +kernel)) ggX7_workOutTold_X7_hardOf
set_option maxRecDepth 20000 in
theorem ggX7_workOutTold_J9_floorDiv_7cf53 : GoodIn wsX7_workOutTold wsJ9_floorDiv_7cf53 := goodIn_r _ [15] (by decide +kernel) (by decide +kernel)
set_option maxRecDepth 20000 in
theorem gX7_workOutTold_J9_floorDiv_7cf53 : GoodIn wsX7_workOutTold (va_wsS RX7 65 yJ9_floorDiv_7cf53 wsJ9_floorDiv_7cf53) := goodIn_app (goodIn_of _ (by decide +kernel)) ggX7_workOutTold_J9_floorDiv_7cf53
set_option maxRecDepth 20000 in
theorem ggX7_workOutSums_X7_toldOf : GoodIn wsX7_workOutSums wsX7_toldOf := goodIn_r _ [8, 9, 10, 11, 12, 13, 14, 15, 16] (by decide +kernel) (by decide +kernel)
set_option maxRecDepth 20000 in
theorem gX7_workOutSums_X7_toldOf : GoodIn wsX7_workOutSums (wsV RX7 55 RX7 yX7_toldOf wsX7_toldOf) := goodIn_app (goodIn_of _ (by decide +kernel)) ggX7_workOutSums_X7_toldOf
set_option maxRecDepth 20000 in
theorem ggX7_workOutGrounds_J9_floorDiv_7cf53 : GoodIn wsX7_workOutGrounds wsJ9_floorDiv_7cf53 := goodIn_r _ [7] (by decide +kernel) (by decide +kernel)
set_option maxRecDepth 20000 in
theorem gX7_workOutGrounds_J9_floorDiv_7cf53 : GoodIn wsX7_workOutGrounds (va_wsS RX7 65 yJ9_floorDiv_7cf53 wsJ9_floorDiv_7cf53) := goodIn_app (goodIn_of _ (by decide +kernel)) ggX7_workOutGrounds_J9_floorDiv_7cf53
set_option maxRecDepth 20000 in
theorem ggX7_workOutGrounds_X7_neighboursMean : GoodIn wsX7_workOutGrounds wsX7_neighboursMean := goodIn_r _ [12, 2, 1, 4, 5, 6, 7, 13, 14, 15, 16, 17, 18, 19] (by decide +kernel) (by decide +kernel)
set_option maxRecDepth 20000 in
theorem gX7_workOutGrounds_X7_neighboursMean : GoodIn wsX7_workOutGrounds (wsV RX7 73 RX7 yX7_neighboursMean wsX7_neighboursMean) := goodIn_app (goodIn_of _ (by decide +kernel)) ggX7_workOutGrounds_X7_neighboursMean
set_option maxRecDepth 20000 in
theorem ggX7_neighboursMean_J9_floorDiv_7cf53 : GoodIn wsX7_neighboursMean wsJ9_floorDiv_7cf53 := goodIn_r _ [6] (by decide +kernel) (by decide +kernel)
set_option maxRecDepth 20000 in
theorem gX7_neighboursMean_J9_floorDiv_7cf53 : GoodIn wsX7_neighboursMean (va_wsS RX7 65 yJ9_floorDiv_7cf53 wsJ9_floorDiv_7cf53) := goodIn_app (goodIn_of _ (by decide +kernel)) ggX7_neighboursMean_J9_floorDiv_7cf53
set_option maxRecDepth 20000 in
theorem ggX9_init_X3_init : GoodIn wsX9_init wsX3_init := goodIn_r _ [44, 45, 2, 3, 40, 46, 47, 126, 127] (by decide +kernel) (by decide +kernel)
set_option maxRecDepth 20000 in
theorem gX9_init_X3_init_n9 : GoodIn wsX9_init (wsX3_init) := ggX9_init_X3_init
set_option maxRecDepth 20000 in
theorem ggX9_init_X1_init : GoodIn wsX9_init wsX1_init := goodIn_r _ [49, 50, 2, 3, 40, 51, 52, 53, 54, 55, 56, 57, 139, 140, 141, 142, 143, 144, 145] (by decide +kernel) (by decide +kernel)
set_option maxRecDepth 20000 in
theorem gX9_init_X1_init_n18 : GoodIn wsX9_init (wsX1_init) := ggX9_init_X1_init
set_option maxRecDepth 20000 in
theorem ggX9_init_X7_init : GoodIn wsX9_init wsX7_init := goodIn_r _ [60, 61, 2, 3, 40, 62, 63, 64, 65, 66, 67, 68, 69, 70, 71, 72, 73, 146, 147, 148, 149, 150, 151, 152] (by decide +kernel) (by decide +kernel)
set_option maxRecDepth 20000 in
theorem gX9_init_X7_init : GoodIn wsX9_init (wsX7_init) := ggX9_init_X7_init
set_option maxRecDepth 20000 in
theorem ggX9_init_X5_init : GoodIn wsX9_init wsX5_init := goodIn_r _ [76, 77, 2, 3, 40, 78, 79, 80, 81, 153, 154, 155, 156] (by decide +kernel) (by decide +kernel)
set_option maxRecDepth 20000 in
theorem gX9_init_X5_init : GoodIn wsX9_init (wsX5_init) := ggX9_init_X5_init
set_option maxRecDepth 20000 in
theorem ggX9_init_X8_init : GoodIn wsX9_init wsX8_init := goodIn_r _ [83, 84, 2, 3, 40, 85, 86, 157, 158] (by decide +kernel) (by decide +kernel)
set_option maxRecDepth 20000 in
theorem gX9_init_X8_init_n41 : GoodIn wsX9_init (wsX8_init) := ggX9_init_X8_init
set_option maxRecDepth 20000 in
theorem ggX9_init_X2_init : GoodIn wsX9_init wsX2_init := goodIn_r _ [88, 89, 2, 3, 40, 90, 91, 92, 93, 159, 160, 161] (by decide +kernel) (by decide +kernel)
set_option maxRecDepth 20000 in
theorem gX9_init_X2_init_n48 : GoodIn wsX9_init (wsX2_init) := ggX9_init_X2_init
set_option maxRecDepth 20000 in
theorem ggX9_init_X6_init : GoodIn wsX9_init wsX6_init := goodIn_r _ [96, 97, 2, 3, 98, 25, 26, 99, 100, 101, 102, 103, 87, 88, 89, 40, 90, 91, 92, 93, 159, 160, 161, 162, 163, 164, 165, 166] (by decide +kernel) (by decide +kernel)
set_option maxRecDepth 20000 in
theorem gX9_init_X6_init : GoodIn wsX9_init (wsX6_init) := ggX9_init_X6_init
set_option maxRecDepth 20000 in
theorem ggX9_init_X4_init : GoodIn wsX9_init wsX4_init := goodIn_r _ [106, 107, 2, 3, 40, 108, 109, 110, 111, 112, 113, 167, 168, 169, 170, 171, 172] (by decide +kernel) (by decide +kernel)
set_option maxRecDepth 20000 in
theorem gX9_init_X4_init : GoodIn wsX9_init (wsX4_init) := ggX9_init_X4_init
set_option maxRecDepth 20000 in
theorem ggX9_init_X0_init : GoodIn wsX9_init wsX0_init := goodIn_r _ [115, 116, 2, 3, 40, 117, 118, 119, 120, 121, 173, 174, 175, 176, 177] (by decide +kernel) (by decide +kernel)
set_option maxRecDepth 20000 in
theorem gX9_init_X0_init_n73 : GoodIn wsX9_init (wsX0_init) := ggX9_init_X0_init
set_option maxRecDepth 20000 in
theorem ggX9_init_X2_append : GoodIn wsX9_init wsX2_append := goodIn_r _ [125, 93, 90, 92, 159, 160, 161] (by decide +kernel) (by decide +kernel)
set_option maxRecDepth 20000 in
theorem gX9_init_X2_append : GoodIn wsX9_init (wsV RX9 86 RX2 yX2_append wsX2_append) := goodIn_app (goodIn_of _ (by decide +kernel)) ggX9_init_X2_append
set_option maxRecDepth 20000 in
theorem ggX9_ploughman_X9_isBelow : GoodIn wsX9_ploughman wsX9_isBelow := goodIn_r _ [7] (by decide +kernel) (by decide +kernel)
set_option maxRecDepth 20000 in
theorem gX9_ploughman_X9_isBelow : GoodIn wsX9_ploughman (va_wsS RX9 90 yX9_isBelow wsX9_isBelow) := goodIn_app (goodIn_of _ (by decide +kernel)) ggX9_ploughman_X9_isBelow
set_option maxRecDepth 20000 in
theorem ggX9_ploughman_X9_requireArgument : GoodIn wsX9_ploughman wsX9_requireArgument := goodIn_ca (goodIn_r _ [10, 11, 12] (by decide +kernel) (by decide +kernel)) (goodIn_sub (fun _ h => List.mem_cons_of_mem _ (List.mem_append_right _ h)) (by decide +kernel))
set_option maxRecDepth 20000 in
theorem gX9_ploughman_X9_requireArgument : GoodIn wsX9_ploughman (va_wsS RX9 94 yX9_requireArgument wsX9_requireArgument) := goodIn_app (goodIn_of _ (by decide +kernel)) ggX9_ploughman_X9_requireArgument
set_option maxRecDepth 20000 in
theorem ggX9_ploughman_X1_isDrawn : GoodIn wsX9_ploughman wsX1_isDrawn := goodIn_r _ [17, 18, 42, 43, 44, 45, 46, 47, 48] (by decide +kernel) (by decide +kernel)
set_option maxRecDepth 20000 in
theorem gX9_ploughman_X1_isDrawn : GoodIn wsX9_ploughman (wsV RX9 98 RX1 yX1_isDrawn wsX1_isDrawn) := goodIn_app (goodIn_of _ (by decide +kernel)) ggX9_ploughman_X1_isDrawn
set_option maxRecDepth 20000 in
theorem ggX9_ploughman_X1_isFull : GoodIn wsX9_ploughman wsX1_isFull := goodIn_r _ [22, 23, 42, 43, 44, 45, 46, 47, 48] (by decide +kernel) (by decide +kernel)
set_option maxRecDepth 20000 in
theorem gX9_ploughman_X1_isFull : GoodIn wsX9_ploughman (wsV RX9 102 RX1 yX1_isFull wsX1_isFull) := goodIn_app (goodIn_of _ (by decide +kernel)) ggX9_ploughman_X1_isFull
set_option maxRecDepth 20000 in
theorem ggX9_ploughman_X1_enter : GoodIn wsX9_ploughman wsX1_enter := goodIn_r _ [27, 23, 28, 29, 30, 42, 43, 44, 45, 46, 47, 48] (by decide +kernel) (by decide +kernel)
set_option maxRecDepth 20000 in
theorem gX9_ploughman_X1_enter : GoodIn wsX9_ploughman (wsV RX9 112 RX1 yX1_enter wsX1_enter) := goodIn_app (goodIn_of _ (by decide +kernel)) ggX9_ploughman_X1_enter
set_option maxRecDepth 20000 in
theorem ggX9_noise_X3_append : GoodIn wsX9_noise wsX3_append := goodIn_r _ [6, 7, 8, 20, 21] (by decide +kernel) (by decide +kernel)
set_option maxRecDepth 20000 in
theorem gX9_noise_X3_append : GoodIn wsX9_noise (wsV RX9 116 RX3 yX3_append wsX3_append) := goodIn_app (goodIn_of _ (by decide +kernel)) ggX9_noise_X3_append
set_option maxRecDepth 20000 in
theorem ggX9_draw_X1_isDrawn : GoodIn wsX9_draw wsX1_isDrawn := goodIn_r _ [10, 11, 59, 60, 61, 62, 63, 64, 65] (by decide +kernel) (by decide +kernel)
set_option maxRecDepth 20000 in
theorem gX9_draw_X1_isDrawn : GoodIn wsX9_draw (wsV RX9 98 RX1 yX1_isDrawn wsX1_isDrawn) := goodIn_app (goodIn_of _ (by decide +kernel)) ggX9_draw_X1_isDrawn
set_option maxRecDepth 20000 in
theorem ggX9_draw_X1_size : GoodIn wsX9_draw wsX1_size := goodIn_r _ [15, 16, 59, 60, 61, 62, 63, 64, 65] (by decide +kernel) (by decide +kernel)
set_option maxRecDepth 20000 in
theorem gX9_draw_X1_size : GoodIn wsX9_draw (wsV RX9 121 RX1 yX1_size wsX1_size) := goodIn_app (goodIn_of _ (by decide +kernel)) ggX9_draw_X1_size
set_option maxRecDepth 20000 in
theorem ggX9_draw_X3_size : GoodIn wsX9_draw wsX3_size := goodIn_r _ [21, 22, 66, 67] (by decide +kernel) (by decide +kernel)
set_option maxRecDepth 20000 in
theorem gX9_draw_X3_size : GoodIn wsX9_draw (wsV RX9 125 RX3 yX3_size wsX3_size) := goodIn_app (goodIn_of _ (by decide +kernel)) ggX9_draw_X3_size
set_option maxRecDepth 20000 in
theorem ggX9_draw_X1_drawBy : GoodIn wsX9_draw wsX1_drawBy := goodIn_r _ [26, 16, 27, 28, 11, 29, 30, 31, 20, 32, 22, 33, 34, 35, 36, 37, 59, 60, 61, 62, 63, 64, 65, 66, 67] (by decide +kernel) (by decide +kernel)
set_option maxRecDepth 20000 in
theorem gX9_draw_X1_drawBy : GoodIn wsX9_draw (wsV RX9 126 RX1 yX1_drawBy wsX1_drawBy) := goodIn_app (goodIn_of _ (by decide +kernel)) ggX9_draw_X1_drawBy
set_option maxRecDepth 20000 in
theorem ggX9_draw_X3_clear : GoodIn wsX9_draw wsX3_clear := goodIn_r _ [41, 22, 66, 67] (by decide +kernel) (by decide +kernel)
set_option maxRecDepth 20000 in
theorem gX9_draw_X3_clear : GoodIn wsX9_draw (wsV RX9 130 RX3 yX3_clear wsX3_clear) := goodIn_app (goodIn_of _ (by decide +kernel)) ggX9_draw_X3_clear
set_option maxRecDepth 20000 in
theorem ggX9_draw_X7_open : GoodIn wsX9_draw wsX7_open := goodIn_r _ [46, 47, 68, 69, 70, 71, 72, 73, 74] (by decide +kernel) (by decide +kernel)
set_option maxRecDepth 20000 in
theorem gX9_draw_X7_open : GoodIn wsX9_draw (wsV RX9 133 RX7 yX7_open wsX7_open) := goodIn_app (goodIn_of _ (by decide +kernel)) ggX9_draw_X7_open
set_option maxRecDepth 20000 in
theorem ggX9_plot_X1_size : GoodIn wsX9_plot wsX1_size := goodIn_r _ [6, 7, 38, 39, 40, 41, 42, 43, 44] (by decide +kernel) (by decide +kernel)
set_option maxRecDepth 20000 in
theorem gX9_plot_X1_size : GoodIn wsX9_plot (wsV RX9 121 RX1 yX1_size wsX1_size) := goodIn_app (goodIn_of _ (by decide +kernel)) ggX9_plot_X1_size
set_option maxRecDepth 20000 in
theorem ggX9_plot_X9_requireIndex : GoodIn wsX9_plot wsX9_requireIndex := goodIn_ca (goodIn_r _ [11, 12, 13, 14, 15, 10, 16] (by decide +kernel) (by decide +kernel)) (goodIn_sub (fun _ h => List.mem_cons_of_mem _ (List.mem_append_right _ h)) (by decide +kernel))
set_option maxRecDepth 20000 in
theorem gX9_plot_X9_requireIndex : GoodIn wsX9_plot (va_wsS RX9 137 yX9_requireIndex wsX9_requireIndex) := goodIn_app (goodIn_of _ (by decide +kernel)) ggX9_plot_X9_requireIndex
set_option maxRecDepth 20000 in
theorem ggX9_plot_X1_isDrawn : GoodIn wsX9_plot wsX1_isDrawn := goodIn_r _ [20, 21, 38, 39, 40, 41, 42, 43, 44] (by decide +kernel) (by decide +kernel)
set_option maxRecDepth 20000 in
theorem gX9_plot_X1_isDrawn : GoodIn wsX9_plot (wsV RX9 98 RX1 yX1_isDrawn wsX1_isDrawn) := goodIn_app (goodIn_of _ (by decide +kernel)) ggX9_plot_X1_isDrawn
set_option maxRecDepth 20000 in
theorem ggX9_plot_X1_plotOf : GoodIn wsX9_plot wsX1_plotOf := goodIn_r _ [25, 26, 38, 39, 40, 41, 42, 43, 44] (by decide +kernel) (by decide +kernel)
set_option maxRecDepth 20000 in
theorem gX9_plot_X1_plotOf : GoodIn wsX9_plot (wsV RX9 141 RX1 yX1_plotOf wsX1_plotOf) := goodIn_app (goodIn_of _ (by decide +kernel)) ggX9_plot_X1_plotOf
set_option maxRecDepth 20000 in
theorem ggX9_mark_X1_plots : GoodIn wsX9_mark wsX1_plots := goodIn_r _ [7, 8, 9, 87, 88, 89, 90, 91, 92, 93] (by decide +kernel) (by decide +kernel)
set_option maxRecDepth 20000 in
theorem gX9_mark_X1_plots : GoodIn wsX9_mark (wsV RX9 144 RX1 yX1_plots wsX1_plots) := goodIn_app (goodIn_of _ (by decide +kernel)) ggX9_mark_X1_plots
set_option maxRecDepth 20000 in
theorem ggX9_mark_X9_requireIndex : GoodIn wsX9_mark wsX9_requireIndex := goodIn_ca (goodIn_r _ [13, 14, 15, 16, 17, 12, 18] (by decide +kernel) (by decide +kernel)) (goodIn_sub (fun _ h => List.mem_cons_of_mem _ (List.mem_append_left _ (List.mem_append_right _ h))) (by decide +kernel))
set_option maxRecDepth 20000 in
theorem gX9_mark_X9_requireIndex : GoodIn wsX9_mark (va_wsS RX9 137 yX9_requireIndex wsX9_requireIndex) := goodIn_app (goodIn_of _ (by decide +kernel)) ggX9_mark_X9_requireIndex
set_option maxRecDepth 20000 in
theorem ggX9_mark_X9_isBelow : GoodIn wsX9_mark wsX9_isBelow := goodIn_r _ [18] (by decide +kernel) (by decide +kernel)
set_option maxRecDepth 20000 in
theorem gX9_mark_X9_isBelow : GoodIn wsX9_mark (va_wsS RX9 90 yX9_isBelow wsX9_isBelow) := goodIn_app (goodIn_of _ (by decide +kernel)) ggX9_mark_X9_isBelow
set_option maxRecDepth 20000 in
theorem ggX9_mark_X9_requireArgument : GoodIn wsX9_mark wsX9_requireArgument := goodIn_ca (goodIn_r _ [21, 22, 23] (by decide +kernel) (by decide +kernel)) (goodIn_sub (fun _ h => List.mem_cons_of_mem _ (List.mem_append_right _ h)) (by decide +kernel))
set_option maxRecDepth 20000 in
theorem gX9_mark_X9_requireArgument : GoodIn wsX9_mark (va_wsS RX9 94 yX9_requireArgument wsX9_requireArgument) := goodIn_app (goodIn_of _ (by decide +kernel)) ggX9_mark_X9_requireArgument
set_option maxRecDepth 20000 in
theorem ggX9_mark_X7_put : GoodIn wsX9_mark wsX7_put := goodIn_r _ [28, 29, 30, 31, 32, 27, 33, 34, 35, 36, 37, 38, 39, 40, 41, 42, 43, 44, 45, 46, 47, 48, 49, 50, 51, 52, 53, 54, 55, 56, 57, 58, 59, 60, 61, 62, 63, 64, 65, 66, 67, 68, 69, 70, 71, 72, 73, 74, 75, 94, 95, 96, 97, 98, 99, 100] (by decide +kernel) (by decide +kernel)
set_option maxRecDepth 20000 in
theorem gX9_mark_X7_put : GoodIn wsX9_mark (wsV RX9 147 RX7 yX7_put wsX7_put) := goodIn_app (goodIn_of _ (by decide +kernel)) ggX9_mark_X7_put
set_option maxRecDepth 20000 in
theorem ggX9_hard_X9_isBelow : GoodIn wsX9_hard wsX9_isBelow := goodIn_r _ [5] (by decide +kernel) (by decide +kernel)
set_option maxRecDepth 20000 in
theorem gX9_hard_X9_isBelow : GoodIn wsX9_hard (va_wsS RX9 90 yX9_isBelow wsX9_isBelow) := goodIn_app (goodIn_of _ (by decide +kernel)) ggX9_hard_X9_isBelow
set_option maxRecDepth 20000 in
theorem ggX9_hard_X9_requireArgument : GoodIn wsX9_hard wsX9_requireArgument := goodIn_ca (goodIn_r _ [8, 9, 10] (by decide +kernel) (by decide +kernel)) (goodIn_sub (fun _ h => List.mem_cons_of_mem _ (List.mem_append_right _ h)) (by decide +kernel))
set_option maxRecDepth 20000 in
theorem gX9_hard_X9_requireArgument : GoodIn wsX9_hard (va_wsS RX9 94 yX9_requireArgument wsX9_requireArgument) := goodIn_app (goodIn_of _ (by decide +kernel)) ggX9_hard_X9_requireArgument
set_option maxRecDepth 20000 in
theorem ggX9_hard_X7_hardOf : GoodIn wsX9_hard wsX7_hardOf := goodIn_r _ [15, 16, 28, 29, 30, 31, 32, 33, 34] (by decide +kernel) (by decide +kernel)
set_option maxRecDepth 20000 in
theorem gX9_hard_X7_hardOf : GoodIn wsX9_hard (wsV RX9 151 RX7 yX7_hardOf wsX7_hardOf) := goodIn_app (goodIn_of _ (by decide +kernel)) ggX9_hard_X7_hardOf
set_option maxRecDepth 20000 in
theorem ggX9_told_X1_plots : GoodIn wsX9_told wsX1_plots := goodIn_r _ [7, 8, 9, 41, 42, 43, 44, 45, 46, 47] (by decide +kernel) (by decide +kernel)
set_option maxRecDepth 20000 in
theorem gX9_told_X1_plots : GoodIn wsX9_told (wsV RX9 144 RX1 yX1_plots wsX1_plots) := goodIn_app (goodIn_of _ (by decide +kernel)) ggX9_told_X1_plots
set_option maxRecDepth 20000 in
theorem ggX9_told_X9_requireIndex : GoodIn wsX9_told wsX9_requireIndex := goodIn_ca (goodIn_r _ [13, 14, 15, 16, 17, 12, 18] (by decide +kernel) (by decide +kernel)) (goodIn_sub (fun _ h => List.mem_cons_of_mem _ (List.mem_append_left _ (List.mem_append_right _ h))) (by decide +kernel))
set_option maxRecDepth 20000 in
theorem gX9_told_X9_requireIndex : GoodIn wsX9_told (va_wsS RX9 137 yX9_requireIndex wsX9_requireIndex) := goodIn_app (goodIn_of _ (by decide +kernel)) ggX9_told_X9_requireIndex
set_option maxRecDepth 20000 in
theorem ggX9_told_X9_isBelow : GoodIn wsX9_told wsX9_isBelow := goodIn_r _ [18] (by decide +kernel) (by decide +kernel)
set_option maxRecDepth 20000 in
theorem gX9_told_X9_isBelow : GoodIn wsX9_told (va_wsS RX9 90 yX9_isBelow wsX9_isBelow) := goodIn_app (goodIn_of _ (by decide +kernel)) ggX9_told_X9_isBelow
set_option maxRecDepth 20000 in
theorem ggX9_told_X9_requireArgument : GoodIn wsX9_told wsX9_requireArgument := goodIn_ca (goodIn_r _ [21, 22, 23] (by decide +kernel) (by decide +kernel)) (goodIn_sub (fun _ h => List.mem_cons_of_mem _ (List.mem_append_right _ h)) (by decide +kernel))
set_option maxRecDepth 20000 in
theorem gX9_told_X9_requireArgument : GoodIn wsX9_told (va_wsS RX9 94 yX9_requireArgument wsX9_requireArgument) := goodIn_app (goodIn_of _ (by decide +kernel)) ggX9_told_X9_requireArgument
set_option maxRecDepth 20000 in
theorem ggX9_told_X7_toldOf : GoodIn wsX9_told wsX7_toldOf := goodIn_r _ [28, 29, 48, 49, 50, 51, 52, 53, 54] (by decide +kernel) (by decide +kernel)
set_option maxRecDepth 20000 in
theorem gX9_told_X7_toldOf : GoodIn wsX9_told (wsV RX9 155 RX7 yX7_toldOf wsX7_toldOf) := goodIn_app (goodIn_of _ (by decide +kernel)) ggX9_told_X7_toldOf
set_option maxRecDepth 20000 in
theorem ggX9_about_X1_plots : GoodIn wsX9_about wsX1_plots := goodIn_r _ [10, 11, 12, 82, 83, 84, 85, 86, 87, 88] (by decide +kernel) (by decide +kernel)
set_option maxRecDepth 20000 in
theorem gX9_about_X1_plots : GoodIn wsX9_about (wsV RX9 144 RX1 yX1_plots wsX1_plots) := goodIn_app (goodIn_of _ (by decide +kernel)) ggX9_about_X1_plots
set_option maxRecDepth 20000 in
theorem ggX9_about_X9_requireIndex : GoodIn wsX9_about wsX9_requireIndex := goodIn_ca (goodIn_r _ [16, 17, 18, 19, 20, 15, 21] (by decide +kernel) (by decide +kernel)) (goodIn_sub (fun _ h => List.mem_cons_of_mem _ (List.mem_append_right _ h)) (by decide +kernel))
set_option maxRecDepth 20000 in
theorem gX9_about_X9_requireIndex : GoodIn wsX9_about (va_wsS RX9 137 yX9_requireIndex wsX9_requireIndex) := goodIn_app (goodIn_of _ (by decide +kernel)) ggX9_about_X9_requireIndex
set_option maxRecDepth 20000 in
theorem ggX9_about_X7_sumOf : GoodIn wsX9_about wsX7_sumOf := goodIn_r _ [26, 27, 89, 90, 91, 92, 93, 94, 95] (by decide +kernel) (by decide +kernel)
set_option maxRecDepth 20000 in
theorem gX9_about_X7_sumOf : GoodIn wsX9_about (wsV RX9 158 RX7 yX7_sumOf wsX7_sumOf) := goodIn_app (goodIn_of _ (by decide +kernel)) ggX9_about_X7_sumOf
set_option maxRecDepth 20000 in
theorem ggX9_about_X7_untoldOf : GoodIn wsX9_about wsX7_untoldOf := goodIn_r _ [31, 32, 33, 34, 35, 25, 36, 37, 89, 90, 91, 92, 93, 94, 95] (by decide +kernel) (by decide +kernel)
set_option maxRecDepth 20000 in
theorem gX9_about_X7_untoldOf : GoodIn wsX9_about (wsV RX9 161 RX7 yX7_untoldOf wsX7_untoldOf) := goodIn_app (goodIn_of _ (by decide +kernel)) ggX9_about_X7_untoldOf
set_option maxRecDepth 20000 in
theorem ggX9_about_X7_groundOf : GoodIn wsX9_about wsX7_groundOf := goodIn_r _ [41, 42, 89, 90, 91, 92, 93, 94, 95] (by decide +kernel) (by decide +kernel)
set_option maxRecDepth 20000 in
theorem gX9_about_X7_groundOf : GoodIn wsX9_about (wsV RX9 164 RX7 yX7_groundOf wsX7_groundOf) := goodIn_app (goodIn_of _ (by decide +kernel)) ggX9_about_X7_groundOf
set_option maxRecDepth 20000 in
theorem ggX9_about_X5_minutesOf : GoodIn wsX9_about wsX5_minutesOf := goodIn_r _ [47, 48, 96, 97, 98, 99] (by decide +kernel) (by decide +kernel)
set_option maxRecDepth 20000 in
theorem gX9_about_X5_minutesOf : GoodIn wsX9_about (wsV RX9 167 RX5 yX5_minutesOf wsX5_minutesOf) := goodIn_app (goodIn_of _ (by decide +kernel)) ggX9_about_X5_minutesOf
set_option maxRecDepth 20000 in
theorem ggX9_about_X5_takenOff : GoodIn wsX9_about wsX5_takenOff := goodIn_r _ [52, 53, 96, 97, 98, 99] (by decide +kernel) (by decide +kernel)
set_option maxRecDepth 20000 in
theorem gX9_about_X5_takenOff : GoodIn wsX9_about (wsV RX9 170 RX5 yX5_takenOff wsX5_takenOff) := goodIn_app (goodIn_of _ (by decide +kernel)) ggX9_about_X5_takenOff
set_option maxRecDepth 20000 in
theorem ggX9_about_X5_finalOf : GoodIn wsX9_about wsX5_finalOf := goodIn_r _ [57, 58, 53, 59, 23, 24, 25, 26, 27, 60, 39, 40, 41, 42, 61, 62, 63, 46, 64, 48, 65, 96, 97, 98, 99, 89, 90, 91, 92, 93, 94, 95] (by decide +kernel) (by decide +kernel)
set_option maxRecDepth 20000 in
theorem gX9_about_X5_finalOf : GoodIn wsX9_about (wsV RX9 173 RX5 yX5_finalOf wsX5_finalOf) := goodIn_app (goodIn_of _ (by decide +kernel)) ggX9_about_X5_finalOf
set_option maxRecDepth 20000 in
theorem ggX9_about_X1_ploughmanOf : GoodIn wsX9_about wsX1_ploughmanOf := goodIn_r _ [69, 70, 82, 83, 84, 85, 86, 87, 88] (by decide +kernel) (by decide +kernel)
set_option maxRecDepth 20000 in
theorem gX9_about_X1_ploughmanOf : GoodIn wsX9_about (wsV RX9 176 RX1 yX1_ploughmanOf wsX1_ploughmanOf) := goodIn_app (goodIn_of _ (by decide +kernel)) ggX9_about_X1_ploughmanOf
set_option maxRecDepth 20000 in
theorem ggX9_minutes_X1_plots : GoodIn wsX9_minutes wsX1_plots := goodIn_r _ [7, 8, 9, 41, 42, 43, 44, 45, 46, 47] (by decide +kernel) (by decide +kernel)
set_option maxRecDepth 20000 in
theorem gX9_minutes_X1_plots : GoodIn wsX9_minutes (wsV RX9 144 RX1 yX1_plots wsX1_plots) := goodIn_app (goodIn_of _ (by decide +kernel)) ggX9_minutes_X1_plots
set_option maxRecDepth 20000 in
theorem ggX9_minutes_X9_requireIndex : GoodIn wsX9_minutes wsX9_requireIndex := goodIn_ca (goodIn_r _ [13, 14, 15, 16, 17, 12, 18] (by decide +kernel) (by decide +kernel)) (goodIn_sub (fun _ h => List.mem_cons_of_mem _ (List.mem_append_left _ (List.mem_append_right _ h))) (by decide +kernel))
set_option maxRecDepth 20000 in
theorem gX9_minutes_X9_requireIndex : GoodIn wsX9_minutes (va_wsS RX9 137 yX9_requireIndex wsX9_requireIndex) := goodIn_app (goodIn_of _ (by decide +kernel)) ggX9_minutes_X9_requireIndex
set_option maxRecDepth 20000 in
theorem ggX9_minutes_X9_requireArgument : GoodIn wsX9_minutes wsX9_requireArgument := goodIn_ca (goodIn_r _ [21, 22, 23] (by decide +kernel) (by decide +kernel)) (goodIn_sub (fun _ h => List.mem_cons_of_mem _ (List.mem_append_right _ h)) (by decide +kernel))
set_option maxRecDepth 20000 in
theorem gX9_minutes_X9_requireArgument : GoodIn wsX9_minutes (va_wsS RX9 94 yX9_requireArgument wsX9_requireArgument) := goodIn_app (goodIn_of _ (by decide +kernel)) ggX9_minutes_X9_requireArgument
set_option maxRecDepth 20000 in
theorem ggX9_minutes_X5_setMinutes : GoodIn wsX9_minutes wsX5_setMinutes := goodIn_r _ [28, 29, 48, 49, 50, 51] (by decide +kernel) (by decide +kernel)
set_option maxRecDepth 20000 in
theorem gX9_minutes_X5_setMinutes : GoodIn wsX9_minutes (wsV RX9 184 RX5 yX5_setMinutes wsX5_setMinutes) := goodIn_app (goodIn_of _ (by decide +kernel)) ggX9_minutes_X5_setMinutes
set_option maxRecDepth 20000 in
theorem ggX9_limit_X9_requireArgument : GoodIn wsX9_limit wsX9_requireArgument := goodIn_ca (goodIn_r _ [5, 6, 7] (by decide +kernel) (by decide +kernel)) (goodIn_sub (fun _ h => List.mem_cons_of_mem _ (List.mem_append_right _ h)) (by decide +kernel))
set_option maxRecDepth 20000 in
theorem gX9_limit_X9_requireArgument : GoodIn wsX9_limit (va_wsS RX9 94 yX9_requireArgument wsX9_requireArgument) := goodIn_app (goodIn_of _ (by decide +kernel)) ggX9_limit_X9_requireArgument
set_option maxRecDepth 20000 in
theorem ggX9_limit_X5_setLimit : GoodIn wsX9_limit wsX5_setLimit := goodIn_r _ [12, 13, 25, 26, 27, 28] (by decide +kernel) (by decide +kernel)
set_option maxRecDepth 20000 in
theorem gX9_limit_X5_setLimit : GoodIn wsX9_limit (wsV RX9 187 RX5 yX5_setLimit wsX5_setLimit) := goodIn_app (goodIn_of _ (by decide +kernel)) ggX9_limit_X5_setLimit
set_option maxRecDepth 20000 in
theorem ggX9_feed_X8_hasRoom : GoodIn wsX9_feed wsX8_hasRoom := goodIn_r _ [6, 7, 28, 29] (by decide +kernel) (by decide +kernel)
set_option maxRecDepth 20000 in
theorem gX9_feed_X8_hasRoom : GoodIn wsX9_feed (wsV RX9 190 RX8 yX8_hasRoom wsX8_hasRoom) := goodIn_app (goodIn_of _ (by decide +kernel)) ggX9_feed_X8_hasRoom
set_option maxRecDepth 20000 in
theorem ggX9_feed_X8_append : GoodIn wsX9_feed wsX8_append := goodIn_r _ [11, 7, 12, 28, 29] (by decide +kernel) (by decide +kernel)
set_option maxRecDepth 20000 in
theorem gX9_feed_X8_append : GoodIn wsX9_feed (wsV RX9 193 RX8 yX8_append wsX8_append) := goodIn_app (goodIn_of _ (by decide +kernel)) ggX9_feed_X8_append
set_option maxRecDepth 20000 in
theorem ggX9_feed_X8_size : GoodIn wsX9_feed wsX8_size := goodIn_r _ [16, 7, 28, 29] (by decide +kernel) (by decide +kernel)
set_option maxRecDepth 20000 in
theorem gX9_feed_X8_size : GoodIn wsX9_feed (wsV RX9 195 RX8 yX8_size wsX8_size) := goodIn_app (goodIn_of _ (by decide +kernel)) ggX9_feed_X8_size
set_option maxRecDepth 20000 in
theorem ggX9_rule_X8_size : GoodIn wsX9_rule wsX8_size := goodIn_r _ [8, 9, 150, 151] (by decide +kernel) (by decide +kernel)
set_option maxRecDepth 20000 in
theorem gX9_rule_X8_size : GoodIn wsX9_rule (wsV RX9 195 RX8 yX8_size wsX8_size) := goodIn_app (goodIn_of _ (by decide +kernel)) ggX9_rule_X8_size
set_option maxRecDepth 20000 in
theorem ggX9_rule_X9_requireArgument : GoodIn wsX9_rule wsX9_requireArgument := goodIn_ca (goodIn_r _ [13, 14, 15] (by decide +kernel) (by decide +kernel)) (goodIn_sub (fun _ h => List.mem_cons_of_mem _ (List.mem_append_right _ h)) (by decide +kernel))
set_option maxRecDepth 20000 in
theorem gX9_rule_X9_requireArgument : GoodIn wsX9_rule (va_wsS RX9 94 yX9_requireArgument wsX9_requireArgument) := goodIn_app (goodIn_of _ (by decide +kernel)) ggX9_rule_X9_requireArgument
set_option maxRecDepth 20000 in
theorem ggX9_rule_X8_cut : GoodIn wsX9_rule wsX8_cut := goodIn_r _ [19, 9, 150, 151] (by decide +kernel) (by decide +kernel)
set_option maxRecDepth 20000 in
theorem gX9_rule_X8_cut : GoodIn wsX9_rule (wsV RX9 196 RX8 yX8_cut wsX8_cut) := goodIn_app (goodIn_of _ (by decide +kernel)) ggX9_rule_X8_cut
set_option maxRecDepth 20000 in
theorem ggX9_rule_X6_read : GoodIn wsX9_rule wsX6_read := goodIn_r _ [24, 25, 26, 27, 28, 29, 5, 6, 7, 8, 9, 30, 31, 32, 33, 34, 35, 36, 37, 38, 23, 39, 40, 41, 42, 43, 44, 45, 46, 47, 48, 49, 50, 51, 52, 53, 54, 55, 56, 57, 58, 59, 60, 61, 62, 63, 64, 65, 66, 67, 68, 69, 70, 71, 72, 73, 74, 75, 76, 77, 78, 79, 80, 81, 82, 83, 84, 85, 86, 87, 88, 89, 90, 91, 92, 93, 94, 95, 96, 97, 98, 99, 100, 101, 102, 103, 104, 105, 106, 107, 108, 109, 110, 111, 112, 113, 114, 115, 116, 117, 118, 119, 120, 152, 153, 154, 155, 156, 150, 151, 157, 158, 159] (by decide +kernel) (by decide +kernel)
set_option maxRecDepth 20000 in
theorem gX9_rule_X6_read : GoodIn wsX9_rule (wsV RX9 199 RX6 yX6_read wsX6_read) := goodIn_app (goodIn_of _ (by decide +kernel)) ggX9_rule_X6_read
set_option maxRecDepth 20000 in
theorem ggX9_rule_X6_place : GoodIn wsX9_rule wsX6_place := goodIn_r _ [124, 27, 152, 153, 154, 155, 156] (by decide +kernel) (by decide +kernel)
set_option maxRecDepth 20000 in
theorem gX9_rule_X6_place : GoodIn wsX9_rule (wsV RX9 202 RX6 yX6_place wsX6_place) := goodIn_app (goodIn_of _ (by decide +kernel)) ggX9_rule_X6_place
set_option maxRecDepth 20000 in
theorem ggX9_rule_X6_draft : GoodIn wsX9_rule wsX6_draft := goodIn_r _ [128, 28, 152, 153, 154, 155, 156] (by decide +kernel) (by decide +kernel)
set_option maxRecDepth 20000 in
theorem gX9_rule_X6_draft : GoodIn wsX9_rule (wsV RX9 205 RX6 yX6_draft wsX6_draft) := goodIn_app (goodIn_of _ (by decide +kernel)) ggX9_rule_X6_draft
set_option maxRecDepth 20000 in
theorem ggX9_rule_X2_copyFrom : GoodIn wsX9_rule wsX2_copyFrom := goodIn_r _ [132, 35, 119, 120, 133, 31, 32, 33, 34, 134, 116, 117, 118, 157, 158, 159] (by decide +kernel) (by decide +kernel)
set_option maxRecDepth 20000 in
theorem gX9_rule_X2_copyFrom : GoodIn wsX9_rule (wsV RX9 209 RX2 yX2_copyFrom wsX2_copyFrom) := goodIn_app (goodIn_of _ (by decide +kernel)) ggX9_rule_X2_copyFrom
set_option maxRecDepth 20000 in
theorem ggX9_rule_X2_size : GoodIn wsX9_rule wsX2_size := goodIn_r _ [138, 35, 157, 158, 159] (by decide +kernel) (by decide +kernel)
set_option maxRecDepth 20000 in
theorem gX9_rule_X2_size : GoodIn wsX9_rule (wsV RX9 213 RX2 yX2_size wsX2_size) := goodIn_app (goodIn_of _ (by decide +kernel)) ggX9_rule_X2_size
set_option maxRecDepth 20000 in
theorem ggX9_rank_X9_isBelow : GoodIn wsX9_rank wsX9_isBelow := goodIn_r _ [6] (by decide +kernel) (by decide +kernel)
set_option maxRecDepth 20000 in
theorem gX9_rank_X9_isBelow : GoodIn wsX9_rank (va_wsS RX9 90 yX9_isBelow wsX9_isBelow) := goodIn_app (goodIn_of _ (by decide +kernel)) ggX9_rank_X9_isBelow
set_option maxRecDepth 20000 in
theorem ggX9_rank_X9_requireArgument : GoodIn wsX9_rank wsX9_requireArgument := goodIn_ca (goodIn_r _ [9, 10, 11] (by decide +kernel) (by decide +kernel)) (goodIn_sub (fun _ h => List.mem_cons_of_mem _ (List.mem_append_right _ h)) (by decide +kernel))
set_option maxRecDepth 20000 in
theorem gX9_rank_X9_requireArgument : GoodIn wsX9_rank (va_wsS RX9 94 yX9_requireArgument wsX9_requireArgument) := goodIn_app (goodIn_of _ (by decide +kernel)) ggX9_rank_X9_requireArgument
set_option maxRecDepth 20000 in
theorem ggX9_rank_X1_isDrawn : GoodIn wsX9_rank wsX1_isDrawn := goodIn_r _ [16, 17, 122, 123, 124, 125, 126, 127, 128] (by decide +kernel) (by decide +kernel)
set_option maxRecDepth 20000 in
theorem gX9_rank_X1_isDrawn : GoodIn wsX9_rank (wsV RX9 98 RX1 yX1_isDrawn wsX1_isDrawn) := goodIn_app (goodIn_of _ (by decide +kernel)) ggX9_rank_X1_isDrawn
set_option maxRecDepth 20000 in
theorem ggX9_rank_X4_arrange : GoodIn wsX9_rank wsX4_arrange := goodIn_r _ [22, 23, 24, 25, 26, 27, 28, 15, 29, 30, 31, 32, 33, 34, 35, 36, 37, 38, 21, 39, 40, 41, 42, 43, 44, 45, 46, 47, 48, 49, 50, 51, 52, 53, 54, 55, 56, 57, 58, 59, 60, 61, 62, 63, 64, 65, 66, 67, 68, 69, 70, 71, 72, 73, 74, 75, 76, 77, 78, 79, 80, 81, 82, 83, 84, 85, 86, 87, 88, 89, 90, 91, 92, 93, 94, 95, 96, 97, 98, 99, 100, 101, 102, 103, 104, 105, 106, 129, 130, 131, 132, 133, 134, 122, 123, 124, 125, 126, 127, 128, 135, 136, 137, 138, 139, 140, 141, 142, 143, 144, 145, 146, 147, 148] (by decide +kernel) (by decide +kernel)
set_option maxRecDepth 20000 in
theorem gX9_rank_X4_arrange : GoodIn wsX9_rank (wsV RX9 214 RX4 yX4_arrange wsX4_arrange) := goodIn_app (goodIn_of _ (by decide +kernel)) ggX9_rank_X4_arrange
set_option maxRecDepth 20000 in
theorem ggX9_rank_X4_ploughmanAt : GoodIn wsX9_rank wsX4_ploughmanAt := goodIn_r _ [110, 23, 25, 4, 5, 6, 129, 130, 131, 132, 133, 134] (by decide +kernel) (by decide +kernel)
set_option maxRecDepth 20000 in
theorem gX9_rank_X4_ploughmanAt : GoodIn wsX9_rank (wsV RX9 217 RX4 yX4_ploughmanAt wsX4_ploughmanAt) := goodIn_app (goodIn_of _ (by decide +kernel)) ggX9_rank_X4_ploughmanAt
set_option maxRecDepth 20000 in
theorem ggX9_protest_X1_plots : GoodIn wsX9_protest wsX1_plots := goodIn_r _ [7, 8, 9, 41, 42, 43, 44, 45, 46, 47] (by decide +kernel) (by decide +kernel)
set_option maxRecDepth 20000 in
theorem gX9_protest_X1_plots : GoodIn wsX9_protest (wsV RX9 144 RX1 yX1_plots wsX1_plots) := goodIn_app (goodIn_of _ (by decide +kernel)) ggX9_protest_X1_plots
set_option maxRecDepth 20000 in
theorem ggX9_protest_X9_requireIndex : GoodIn wsX9_protest wsX9_requireIndex := goodIn_ca (goodIn_r _ [13, 14, 15, 16, 17, 12, 18] (by decide +kernel) (by decide +kernel)) (goodIn_sub (fun _ h => List.mem_cons_of_mem _ (List.mem_append_left _ (List.mem_append_right _ h))) (by decide +kernel))
set_option maxRecDepth 20000 in
theorem gX9_protest_X9_requireIndex : GoodIn wsX9_protest (va_wsS RX9 137 yX9_requireIndex wsX9_requireIndex) := goodIn_app (goodIn_of _ (by decide +kernel)) ggX9_protest_X9_requireIndex
set_option maxRecDepth 20000 in
theorem ggX9_protest_X9_requireArgument : GoodIn wsX9_protest wsX9_requireArgument := goodIn_ca (goodIn_r _ [21, 22, 23] (by decide +kernel) (by decide +kernel)) (goodIn_sub (fun _ h => List.mem_cons_of_mem _ (List.mem_append_right _ h)) (by decide +kernel))
set_option maxRecDepth 20000 in
theorem gX9_protest_X9_requireArgument : GoodIn wsX9_protest (va_wsS RX9 94 yX9_requireArgument wsX9_requireArgument) := goodIn_app (goodIn_of _ (by decide +kernel)) ggX9_protest_X9_requireArgument
set_option maxRecDepth 20000 in
theorem ggX9_protest_X5_takeOff : GoodIn wsX9_protest wsX5_takeOff := goodIn_r _ [28, 29, 48, 49, 50, 51] (by decide +kernel) (by decide +kernel)
set_option maxRecDepth 20000 in
theorem gX9_protest_X5_takeOff : GoodIn wsX9_protest (wsV RX9 220 RX5 yX5_takeOff wsX5_takeOff) := goodIn_app (goodIn_of _ (by decide +kernel)) ggX9_protest_X5_takeOff
set_option maxRecDepth 20000 in
theorem ggX9_publish_X1_isDrawn : GoodIn wsX9_publish wsX1_isDrawn := goodIn_r _ [9, 10, 155, 156, 157, 158, 159, 160, 161] (by decide +kernel) (by decide +kernel)
set_option maxRecDepth 20000 in
theorem gX9_publish_X1_isDrawn : GoodIn wsX9_publish (wsV RX9 98 RX1 yX1_isDrawn wsX1_isDrawn) := goodIn_app (goodIn_of _ (by decide +kernel)) ggX9_publish_X1_isDrawn
set_option maxRecDepth 20000 in
theorem ggX9_publish_J7_fill_53178 : GoodIn wsX9_publish wsJ7_fill_53178 := goodIn_r _ [14] (by decide +kernel) (by decide +kernel)
set_option maxRecDepth 20000 in
theorem gX9_publish_J7_fill_53178 : GoodIn wsX9_publish (va_wsS RX9 223 yJ7_fill_53178 wsJ7_fill_53178) := goodIn_app (goodIn_of _ (by decide +kernel)) ggX9_publish_J7_fill_53178
set_option maxRecDepth 20000 in
theorem ggX9_publish_X9_awardPrizes : GoodIn wsX9_publish wsX9_awardPrizes := goodIn_r _ [19, 20, 21, 22, 23, 24, 25, 2, 1, 26, 27, 28, 29, 30, 31, 32, 33, 34, 35, 36, 8, 37, 38, 39, 40, 41, 42, 43, 44, 45, 46, 47, 48, 49, 50, 51, 52, 53, 54, 55, 56, 57, 58, 59, 60, 61, 62, 63, 64, 65, 66, 67, 68, 69, 70, 71, 72, 73, 74, 75, 76, 77, 78, 79, 80, 81, 82, 83, 84, 85, 86, 87, 88, 89, 90, 91, 92, 93, 94, 95, 96, 97, 98, 99, 100, 101, 102, 103, 104, 105, 106, 107, 108, 109, 110, 111, 112, 113, 114, 115, 116, 117, 118, 119, 120, 121, 122, 123, 18, 124, 125, 126, 127, 128, 129, 144, 145, 146, 147, 148, 149, 150, 151, 152, 153, 154, 162, 163, 164, 165, 166, 167, 155, 156, 157, 158, 159, 160, 161, 168, 169, 170, 171, 172, 173, 174, 175, 176, 177, 178, 179, 180, 181] (by decide +kernel) (by decide +kernel)
set_option maxRecDepth 20000 in
theorem gX9_publish_X9_awardPrizes : GoodIn wsX9_publish (wsV RX9 229 RX9 yX9_awardPrizes wsX9_awardPrizes) := goodIn_app (goodIn_of _ (by decide +kernel)) ggX9_publish_X9_awardPrizes
set_option maxRecDepth 20000 in
theorem ggX9_publish_X0_write : GoodIn wsX9_publish wsX0_write := goodIn_r _ [134, 135, 136, 137, 138, 139, 140, 141, 142, 133, 143, 182, 183, 184, 185, 186] (by decide +kernel) (by decide +kernel)
set_option maxRecDepth 20000 in
theorem gX9_publish_X0_write : GoodIn wsX9_publish (wsV RX9 232 RX0 yX0_write wsX0_write) := goodIn_app (goodIn_of _ (by decide +kernel)) ggX9_publish_X0_write
set_option maxRecDepth 20000 in
theorem ggX9_points_X9_isBelow : GoodIn wsX9_points wsX9_isBelow := goodIn_r _ [5] (by decide +kernel) (by decide +kernel)
set_option maxRecDepth 20000 in
theorem gX9_points_X9_isBelow : GoodIn wsX9_points (va_wsS RX9 90 yX9_isBelow wsX9_isBelow) := goodIn_app (goodIn_of _ (by decide +kernel)) ggX9_points_X9_isBelow
set_option maxRecDepth 20000 in
theorem ggX9_points_X9_requireArgument : GoodIn wsX9_points wsX9_requireArgument := goodIn_ca (goodIn_r _ [8, 9, 10] (by decide +kernel) (by decide +kernel)) (goodIn_sub (fun _ h => List.mem_cons_of_mem _ (List.mem_append_right _ h)) (by decide +kernel))
set_option maxRecDepth 20000 in
theorem gX9_points_X9_requireArgument : GoodIn wsX9_points (va_wsS RX9 94 yX9_requireArgument wsX9_requireArgument) := goodIn_app (goodIn_of _ (by decide +kernel)) ggX9_points_X9_requireArgument
set_option maxRecDepth 20000 in
theorem ggX9_points_X0_knownOf : GoodIn wsX9_points wsX0_knownOf := goodIn_r _ [15, 16, 17, 18, 19, 31, 32, 33, 34, 35] (by decide +kernel) (by decide +kernel)
set_option maxRecDepth 20000 in
theorem gX9_points_X0_knownOf : GoodIn wsX9_points (wsV RX9 236 RX0 yX0_knownOf wsX0_knownOf) := goodIn_app (goodIn_of _ (by decide +kernel)) ggX9_points_X0_knownOf
set_option maxRecDepth 20000 in
theorem ggX9_line_X0_size : GoodIn wsX9_line wsX0_size := goodIn_r _ [8, 9, 45, 46, 47, 48, 49] (by decide +kernel) (by decide +kernel)
set_option maxRecDepth 20000 in
theorem gX9_line_X0_size : GoodIn wsX9_line (wsV RX9 239 RX0 yX0_size wsX0_size) := goodIn_app (goodIn_of _ (by decide +kernel)) ggX9_line_X0_size
set_option maxRecDepth 20000 in
theorem ggX9_line_X9_requireIndex : GoodIn wsX9_line wsX9_requireIndex := goodIn_ca (goodIn_r _ [13, 14, 15, 16, 17, 12, 18] (by decide +kernel) (by decide +kernel)) (goodIn_sub (fun _ h => List.mem_cons_of_mem _ (List.mem_append_right _ h)) (by decide +kernel))
set_option maxRecDepth 20000 in
theorem gX9_line_X9_requireIndex : GoodIn wsX9_line (va_wsS RX9 137 yX9_requireIndex wsX9_requireIndex) := goodIn_app (goodIn_of _ (by decide +kernel)) ggX9_line_X9_requireIndex
set_option maxRecDepth 20000 in
theorem ggX9_line_X0_dayAt : GoodIn wsX9_line wsX0_dayAt := goodIn_r _ [22, 23, 45, 46, 47, 48, 49] (by decide +kernel) (by decide +kernel)
set_option maxRecDepth 20000 in
theorem gX9_line_X0_dayAt : GoodIn wsX9_line (wsV RX9 240 RX0 yX0_dayAt wsX0_dayAt) := goodIn_app (goodIn_of _ (by decide +kernel)) ggX9_line_X0_dayAt
set_option maxRecDepth 20000 in
theorem ggX9_line_X0_clubAt : GoodIn wsX9_line wsX0_clubAt := goodIn_r _ [27, 28, 45, 46, 47, 48, 49] (by decide +kernel) (by decide +kernel)
set_option maxRecDepth 20000 in
theorem gX9_line_X0_clubAt : GoodIn wsX9_line (wsV RX9 243 RX0 yX0_clubAt wsX0_clubAt) := goodIn_app (goodIn_of _ (by decide +kernel)) ggX9_line_X0_clubAt
set_option maxRecDepth 20000 in
theorem ggX9_line_X0_differenceAt : GoodIn wsX9_line wsX0_differenceAt := goodIn_r _ [32, 33, 45, 46, 47, 48, 49] (by decide +kernel) (by decide +kernel)
set_option maxRecDepth 20000 in
theorem gX9_line_X0_differenceAt : GoodIn wsX9_line (wsV RX9 246 RX0 yX0_differenceAt wsX0_differenceAt) := goodIn_app (goodIn_of _ (by decide +kernel)) ggX9_line_X0_differenceAt
set_option maxRecDepth 20000 in
theorem ggX9_wait_X9_requireArgument : GoodIn wsX9_wait wsX9_requireArgument := goodIn_ca (goodIn_r _ [5, 6, 7] (by decide +kernel) (by decide +kernel)) (goodIn_sub (fun _ h => List.mem_cons_of_mem _ (List.mem_append_right _ h)) (by decide +kernel))
set_option maxRecDepth 20000 in
theorem gX9_wait_X9_requireArgument : GoodIn wsX9_wait (va_wsS RX9 94 yX9_requireArgument wsX9_requireArgument) := goodIn_app (goodIn_of _ (by decide +kernel)) ggX9_wait_X9_requireArgument
set_option maxRecDepth 20000 in
theorem ggX9_count_X1_size : GoodIn wsX9_count wsX1_size := goodIn_r _ [12, 13, 60, 61, 62, 63, 64, 65, 66] (by decide +kernel) (by decide +kernel)
set_option maxRecDepth 20000 in
theorem gX9_count_X1_size : GoodIn wsX9_count (wsV RX9 121 RX1 yX1_size wsX1_size) := goodIn_app (goodIn_of _ (by decide +kernel)) ggX9_count_X1_size
set_option maxRecDepth 20000 in
theorem ggX9_count_X1_plots : GoodIn wsX9_count wsX1_plots := goodIn_r _ [17, 18, 13, 60, 61, 62, 63, 64, 65, 66] (by decide +kernel) (by decide +kernel)
set_option maxRecDepth 20000 in
theorem gX9_count_X1_plots : GoodIn wsX9_count (wsV RX9 144 RX1 yX1_plots wsX1_plots) := goodIn_app (goodIn_of _ (by decide +kernel)) ggX9_count_X1_plots
set_option maxRecDepth 20000 in
theorem ggX9_count_X7_size : GoodIn wsX9_count wsX7_size := goodIn_r _ [23, 24, 67, 68, 69, 70, 71, 72, 73] (by decide +kernel) (by decide +kernel)
set_option maxRecDepth 20000 in
theorem gX9_count_X7_size : GoodIn wsX9_count (wsV RX9 251 RX7 yX7_size wsX7_size) := goodIn_app (goodIn_of _ (by decide +kernel)) ggX9_count_X7_size
set_option maxRecDepth 20000 in
theorem ggX9_count_X2_size : GoodIn wsX9_count wsX2_size := goodIn_r _ [29, 30, 74, 75, 76] (by decide +kernel) (by decide +kernel)
set_option maxRecDepth 20000 in
theorem gX9_count_X2_size : GoodIn wsX9_count (wsV RX9 213 RX2 yX2_size wsX2_size) := goodIn_app (goodIn_of _ (by decide +kernel)) ggX9_count_X2_size
set_option maxRecDepth 20000 in
theorem ggX9_count_X0_size : GoodIn wsX9_count wsX0_size := goodIn_r _ [35, 36, 77, 78, 79, 80, 81] (by decide +kernel) (by decide +kernel)
set_option maxRecDepth 20000 in
theorem gX9_count_X0_size : GoodIn wsX9_count (wsV RX9 239 RX0 yX0_size wsX0_size) := goodIn_app (goodIn_of _ (by decide +kernel)) ggX9_count_X0_size
set_option maxRecDepth 20000 in
theorem ggX9_count_X3_size : GoodIn wsX9_count wsX3_size := goodIn_r _ [41, 42, 82, 83] (by decide +kernel) (by decide +kernel)
set_option maxRecDepth 20000 in
theorem gX9_count_X3_size : GoodIn wsX9_count (wsV RX9 125 RX3 yX3_size wsX3_size) := goodIn_app (goodIn_of _ (by decide +kernel)) ggX9_count_X3_size
set_option maxRecDepth 20000 in
theorem ggX9_count_X8_size : GoodIn wsX9_count wsX8_size := goodIn_r _ [47, 48, 84, 85] (by decide +kernel) (by decide +kernel)
set_option maxRecDepth 20000 in
theorem gX9_count_X8_size : GoodIn wsX9_count (wsV RX9 195 RX8 yX8_size wsX8_size) := goodIn_app (goodIn_of _ (by decide +kernel)) ggX9_count_X8_size
set_option maxRecDepth 20000 in
theorem ggX9_awardPrizes_X4_arrange : GoodIn wsX9_awardPrizes wsX4_arrange := goodIn_r _ [13, 14, 15, 16, 17, 18, 19, 20, 21, 22, 23, 24, 25, 26, 27, 28, 29, 30, 12, 31, 32, 33, 34, 35, 36, 37, 38, 39, 40, 41, 42, 43, 44, 45, 46, 47, 48, 49, 50, 51, 52, 53, 54, 55, 56, 57, 58, 59, 60, 61, 62, 63, 64, 65, 66, 67, 68, 69, 70, 71, 72, 73, 74, 75, 76, 77, 78, 79, 80, 81, 82, 83, 84, 85, 86, 87, 88, 89, 90, 91, 92, 93, 94, 95, 96, 97, 98, 126, 127, 128, 129, 130, 131, 132, 133, 134, 135, 136, 137, 138, 139, 140, 141, 142, 143, 144, 145, 146, 147, 148, 149, 150, 151, 152] (by decide +kernel) (by decide +kernel)
set_option maxRecDepth 20000 in
theorem gX9_awardPrizes_X4_arrange : GoodIn wsX9_awardPrizes (wsV RX9 214 RX4 yX4_arrange wsX4_arrange) := goodIn_app (goodIn_of _ (by decide +kernel)) ggX9_awardPrizes_X4_arrange
set_option maxRecDepth 20000 in
theorem ggX9_awardPrizes_X4_size : GoodIn wsX9_awardPrizes wsX4_size := goodIn_r _ [102, 14, 126, 127, 128, 129, 130, 131] (by decide +kernel) (by decide +kernel)
set_option maxRecDepth 20000 in
theorem gX9_awardPrizes_X4_size : GoodIn wsX9_awardPrizes (wsV RX9 255 RX4 yX4_size wsX4_size) := goodIn_app (goodIn_of _ (by decide +kernel)) ggX9_awardPrizes_X4_size
set_option maxRecDepth 20000 in
theorem ggX9_awardPrizes_X4_ploughmanAt : GoodIn wsX9_awardPrizes wsX4_ploughmanAt := goodIn_r _ [106, 14, 16, 107, 108, 109, 126, 127, 128, 129, 130, 131] (by decide +kernel) (by decide +kernel)
set_option maxRecDepth 20000 in
theorem gX9_awardPrizes_X4_ploughmanAt : GoodIn wsX9_awardPrizes (wsV RX9 217 RX4 yX4_ploughmanAt wsX4_ploughmanAt) := goodIn_app (goodIn_of _ (by decide +kernel)) ggX9_awardPrizes_X4_ploughmanAt
set_option maxRecDepth 20000 in
theorem ggX9_awardPrizes_X1_clubOf : GoodIn wsX9_awardPrizes wsX1_clubOf := goodIn_r _ [113, 114, 132, 133, 134, 135, 136, 137, 138] (by decide +kernel) (by decide +kernel)
set_option maxRecDepth 20000 in
theorem gX9_awardPrizes_X1_clubOf : GoodIn wsX9_awardPrizes (wsV RX9 261 RX1 yX1_clubOf wsX1_clubOf) := goodIn_app (goodIn_of _ (by decide +kernel)) ggX9_awardPrizes_X1_clubOf
set_option maxRecDepth 20000 in
theorem ggX9_requireIndex_X9_isBelow : GoodIn wsX9_requireIndex wsX9_isBelow := goodIn_r _ [6] (by decide +kernel) (by decide +kernel)
set_option maxRecDepth 20000 in
theorem gX9_requireIndex_X9_isBelow : GoodIn wsX9_requireIndex (va_wsS RX9 90 yX9_isBelow wsX9_isBelow) := goodIn_app (goodIn_of _ (by decide +kernel)) ggX9_requireIndex_X9_isBelow
set_option maxRecDepth 20000 in
theorem ggX10_ploughman_X10_bad : GoodIn wsX10_ploughman wsX10_bad := goodIn_r _ [11, 1, 12, 13, 14, 15, 16, 17, 18, 19, 20, 21, 22, 23, 24, 25, 26, 27, 28, 29, 30, 31, 32, 33, 34, 35, 36, 37, 38, 39, 40, 41, 42, 43, 44, 45] (by decide +kernel) (by decide +kernel)
set_option maxRecDepth 20000 in
theorem gX10_ploughman_X10_bad : GoodIn wsX10_ploughman (wsV RX10 85 RX10 yX10_bad wsX10_bad) := goodIn_app (goodIn_of _ (by decide +kernel)) ggX10_ploughman_X10_bad
set_option maxRecDepth 20000 in
theorem ggX10_draw_X10_bad : GoodIn wsX10_draw wsX10_bad := goodIn_r _ [13, 1, 14, 15, 16, 17, 18, 19, 20, 21, 22, 23, 24, 25, 26, 27, 28, 29, 30, 31, 32, 33, 34, 35, 36, 37, 38, 39, 40, 41, 42, 43, 44, 45, 46, 47] (by decide +kernel) (by decide +kernel)
set_option maxRecDepth 20000 in
theorem gX10_draw_X10_bad : GoodIn wsX10_draw (wsV RX10 85 RX10 yX10_bad wsX10_bad) := goodIn_app (goodIn_of _ (by decide +kernel)) ggX10_draw_X10_bad
set_option maxRecDepth 20000 in
theorem ggX10_plot_X10_isMan : GoodIn wsX10_plot wsX10_isMan := goodIn_r _ [7, 8, 9, 10, 11, 12, 13, 14, 15, 16, 17, 18, 19, 20, 21, 22, 23, 24, 25, 26, 27, 28, 29, 30, 31, 32, 33, 34, 35, 36, 37, 38, 39, 40, 41, 42, 43] (by decide +kernel) (by decide +kernel)
set_option maxRecDepth 20000 in
theorem gX10_plot_X10_isMan : GoodIn wsX10_plot (wsV RX10 104 RX10 yX10_isMan wsX10_isMan) := goodIn_app (goodIn_of _ (by decide +kernel)) ggX10_plot_X10_isMan
set_option maxRecDepth 20000 in
theorem ggX10_mark_X10_isPlot : GoodIn wsX10_mark wsX10_isPlot := goodIn_r _ [7, 8, 9, 21, 22, 23, 24, 25, 26, 27, 28, 29, 30, 31, 32, 33, 34, 35, 36, 37, 38, 39, 40, 41, 42, 43, 44, 45, 46, 47, 48, 49, 50, 51, 52, 53, 54] (by decide +kernel) (by decide +kernel)
set_option maxRecDepth 20000 in
theorem gX10_mark_X10_isPlot : GoodIn wsX10_mark (wsV RX10 108 RX10 yX10_isPlot wsX10_isPlot) := goodIn_app (goodIn_of _ (by decide +kernel)) ggX10_mark_X10_isPlot
set_option maxRecDepth 20000 in
theorem ggX10_mark_X10_isPart : GoodIn wsX10_mark wsX10_isPart := goodIn_r _ [12] (by decide +kernel) (by decide +kernel)
set_option maxRecDepth 20000 in
theorem gX10_mark_X10_isPart : GoodIn wsX10_mark (va_wsS RX10 111 yX10_isPart wsX10_isPart) := goodIn_app (goodIn_of _ (by decide +kernel)) ggX10_mark_X10_isPart
set_option maxRecDepth 20000 in
theorem ggX10_mark_X10_bad : GoodIn wsX10_mark wsX10_bad := goodIn_r _ [16, 9, 21, 22, 23, 24, 25, 26, 27, 28, 29, 30, 31, 32, 33, 34, 35, 36, 37, 38, 39, 40, 41, 42, 43, 44, 45, 46, 47, 48, 49, 50, 51, 52, 53, 54] (by decide +kernel) (by decide +kernel)
set_option maxRecDepth 20000 in
theorem gX10_mark_X10_bad : GoodIn wsX10_mark (wsV RX10 85 RX10 yX10_bad wsX10_bad) := goodIn_app (goodIn_of _ (by decide +kernel)) ggX10_mark_X10_bad
set_option maxRecDepth 20000 in
theorem ggX10_mark_X10_markOf : GoodIn wsX10_mark wsX10_markOf := goodIn_r _ [20, 1, 21, 22, 23, 24, 25, 26, 27, 28, 29, 30, 31, 32, 33, 34, 35, 36, 37, 38, 39, 40, 41, 42, 43, 44, 45, 46, 47, 48, 49, 50, 51, 52, 53, 54] (by decide +kernel) (by decide +kernel)
set_option maxRecDepth 20000 in
theorem gX10_mark_X10_markOf : GoodIn wsX10_mark (wsV RX10 114 RX10 yX10_markOf wsX10_markOf) := goodIn_app (goodIn_of _ (by decide +kernel)) ggX10_mark_X10_markOf
set_option maxRecDepth 20000 in
theorem ggX10_hardOf_X10_markOf : GoodIn wsX10_hardOf wsX10_markOf := goodIn_r _ [6, 7, 11, 12, 13, 14, 15, 16, 17, 18, 19, 20, 21, 22, 23, 24, 25, 26, 27, 28, 29, 30, 31, 32, 33, 34, 35, 36, 37, 38, 39, 40, 41, 42, 43, 44] (by decide +kernel) (by decide +kernel)
set_option maxRecDepth 20000 in
theorem gX10_hardOf_X10_markOf : GoodIn wsX10_hardOf (wsV RX10 114 RX10 yX10_markOf wsX10_markOf) := goodIn_app (goodIn_of _ (by decide +kernel)) ggX10_hardOf_X10_markOf
set_option maxRecDepth 20000 in
theorem ggX10_hardOf_X10_floored : GoodIn wsX10_hardOf wsX10_floored := goodIn_r _ [10] (by decide +kernel) (by decide +kernel)
set_option maxRecDepth 20000 in
theorem gX10_hardOf_X10_floored : GoodIn wsX10_hardOf (va_wsS RX10 118 yX10_floored wsX10_floored) := goodIn_app (goodIn_of _ (by decide +kernel)) ggX10_hardOf_X10_floored
set_option maxRecDepth 20000 in
theorem ggX10_hard_X10_isPart : GoodIn wsX10_hard wsX10_isPart := goodIn_r _ [5] (by decide +kernel) (by decide +kernel)
set_option maxRecDepth 20000 in
theorem gX10_hard_X10_isPart : GoodIn wsX10_hard (va_wsS RX10 111 yX10_isPart wsX10_isPart) := goodIn_app (goodIn_of _ (by decide +kernel)) ggX10_hard_X10_isPart
set_option maxRecDepth 20000 in
theorem ggX10_hard_X10_bad : GoodIn wsX10_hard wsX10_bad := goodIn_r _ [9, 1, 23, 24, 25, 26, 27, 28, 29, 30, 31, 32, 33, 34, 35, 36, 37, 38, 39, 40, 41, 42, 43, 44, 45, 46, 47, 48, 49, 50, 51, 52, 53, 54, 55, 56] (by decide +kernel) (by decide +kernel)
set_option maxRecDepth 20000 in
theorem gX10_hard_X10_bad : GoodIn wsX10_hard (wsV RX10 85 RX10 yX10_bad wsX10_bad) := goodIn_app (goodIn_of _ (by decide +kernel)) ggX10_hard_X10_bad
set_option maxRecDepth 20000 in
theorem ggX10_hard_X10_hardOf : GoodIn wsX10_hard wsX10_hardOf := goodIn_r _ [13, 14, 15, 16, 17, 4, 18, 19, 20, 21, 22, 23, 24, 25, 26, 27, 28, 29, 30, 31, 32, 33, 34, 35, 36, 37, 38, 39, 40, 41, 42, 43, 44, 45, 46, 47, 48, 49, 50, 51, 52, 53, 54, 55, 56] (by decide +kernel) (by decide +kernel)
set_option maxRecDepth 20000 in
theorem gX10_hard_X10_hardOf : GoodIn wsX10_hard (wsV RX10 122 RX10 yX10_hardOf wsX10_hardOf) := goodIn_app (goodIn_of _ (by decide +kernel)) ggX10_hard_X10_hardOf
set_option maxRecDepth 20000 in
theorem ggX10_sumAll_X10_hardOf : GoodIn wsX10_sumAll wsX10_hardOf := goodIn_r _ [11, 3, 12, 13, 14, 10, 15, 16, 17, 18, 19, 24, 25, 26, 27, 28, 29, 30, 31, 32, 33, 34, 35, 36, 37, 38, 39, 40, 41, 42, 43, 44, 45, 46, 47, 48, 49, 50, 51, 52, 53, 54, 55, 56, 57] (by decide +kernel) (by decide +kernel)
set_option maxRecDepth 20000 in
theorem gX10_sumAll_X10_hardOf : GoodIn wsX10_sumAll (wsV RX10 122 RX10 yX10_hardOf wsX10_hardOf) := goodIn_app (goodIn_of _ (by decide +kernel)) ggX10_sumAll_X10_hardOf
set_option maxRecDepth 20000 in
theorem ggX10_sumAll_X10_freshTold : GoodIn wsX10_sumAll wsX10_freshTold := goodIn_r _ [23, 2, 6, 12, 13, 14, 10, 15, 16, 17, 18, 19, 24, 25, 26, 27, 28, 29, 30, 31, 32, 33, 34, 35, 36, 37, 38, 39, 40, 41, 42, 43, 44, 45, 46, 47, 48, 49, 50, 51, 52, 53, 54, 55, 56, 57] (by decide +kernel) (by decide +kernel)
set_option maxRecDepth 20000 in
theorem gX10_sumAll_X10_freshTold : GoodIn wsX10_sumAll (wsV RX10 125 RX10 yX10_freshTold wsX10_freshTold) := goodIn_app (goodIn_of _ (by decide +kernel)) ggX10_sumAll_X10_freshTold
set_option maxRecDepth 20000 in
theorem ggX10_freshTold_X10_markOf : GoodIn wsX10_freshTold wsX10_markOf := goodIn_r _ [7, 8, 12, 13, 14, 15, 16, 17, 18, 19, 20, 21, 22, 23, 24, 25, 26, 27, 28, 29, 30, 31, 32, 33, 34, 35, 36, 37, 38, 39, 40, 41, 42, 43, 44, 45] (by decide +kernel) (by decide +kernel)
set_option maxRecDepth 20000 in
theorem gX10_freshTold_X10_markOf : GoodIn wsX10_freshTold (wsV RX10 114 RX10 yX10_markOf wsX10_markOf) := goodIn_app (goodIn_of _ (by decide +kernel)) ggX10_freshTold_X10_markOf
set_option maxRecDepth 20000 in
theorem ggX10_freshTold_X10_floored : GoodIn wsX10_freshTold wsX10_floored := goodIn_r _ [11] (by decide +kernel) (by decide +kernel)
set_option maxRecDepth 20000 in
theorem gX10_freshTold_X10_floored : GoodIn wsX10_freshTold (va_wsS RX10 118 yX10_floored wsX10_floored) := goodIn_app (goodIn_of _ (by decide +kernel)) ggX10_freshTold_X10_floored
set_option maxRecDepth 20000 in
theorem ggX10_toldOf_X10_sumAll : GoodIn wsX10_toldOf wsX10_sumAll := goodIn_r _ [6, 7, 8, 9, 10, 1, 11, 12, 13, 14, 5, 15, 16, 17, 18, 19, 20, 21, 22, 23, 24, 25, 26, 27, 28, 29, 30, 31, 32, 33, 34, 35, 36, 37, 38, 39, 40, 41, 42, 43, 44, 45, 46, 47, 48, 49, 50, 51, 52, 53, 54, 55, 56, 57, 58, 59, 60, 61] (by decide +kernel) (by decide +kernel)
set_option maxRecDepth 20000 in
theorem gX10_toldOf_X10_sumAll : GoodIn wsX10_toldOf (wsV RX10 129 RX10 yX10_sumAll wsX10_sumAll) := goodIn_app (goodIn_of _ (by decide +kernel)) ggX10_toldOf_X10_sumAll
set_option maxRecDepth 20000 in
theorem ggX10_told_X10_isPlot : GoodIn wsX10_told wsX10_isPlot := goodIn_r _ [5, 6, 7, 44, 45, 46, 47, 48, 49, 50, 51, 52, 53, 54, 55, 56, 57, 58, 59, 60, 61, 62, 63, 64, 65, 66, 67, 68, 69, 70, 71, 72, 73, 74, 75, 76, 77] (by decide +kernel) (by decide +kernel)
set_option maxRecDepth 20000 in
theorem gX10_told_X10_isPlot : GoodIn wsX10_told (wsV RX10 108 RX10 yX10_isPlot wsX10_isPlot) := goodIn_app (goodIn_of _ (by decide +kernel)) ggX10_told_X10_isPlot
set_option maxRecDepth 20000 in
theorem ggX10_told_X10_isPart : GoodIn wsX10_told wsX10_isPart := goodIn_r _ [10] (by decide +kernel) (by decide +kernel)
set_option maxRecDepth 20000 in
theorem gX10_told_X10_isPart : GoodIn wsX10_told (va_wsS RX10 111 yX10_isPart wsX10_isPart) := goodIn_app (goodIn_of _ (by decide +kernel)) ggX10_told_X10_isPart
set_option maxRecDepth 20000 in
theorem ggX10_told_X10_bad : GoodIn wsX10_told wsX10_bad := goodIn_r _ [14, 7, 44, 45, 46, 47, 48, 49, 50, 51, 52, 53, 54, 55, 56, 57, 58, 59, 60, 61, 62, 63, 64, 65, 66, 67, 68, 69, 70, 71, 72, 73, 74, 75, 76, 77] (by decide +kernel) (by decide +kernel)
set_option maxRecDepth 20000 in
theorem gX10_told_X10_bad : GoodIn wsX10_told (wsV RX10 85 RX10 yX10_bad wsX10_bad) := goodIn_app (goodIn_of _ (by decide +kernel)) ggX10_told_X10_bad
set_option maxRecDepth 20000 in
theorem ggX10_told_X10_toldOf : GoodIn wsX10_told wsX10_toldOf := goodIn_r _ [18, 19, 20, 21, 22, 4, 23, 24, 25, 6, 26, 27, 28, 29, 30, 31, 32, 33, 34, 35, 36, 37, 38, 39, 40, 41, 42, 43, 44, 45, 46, 47, 48, 49, 50, 51, 52, 53, 54, 55, 56, 57, 58, 59, 60, 61, 62, 63, 64, 65, 66, 67, 68, 69, 70, 71, 72, 73, 74, 75, 76, 77] (by decide +kernel) (by decide +kernel)
set_option maxRecDepth 20000 in
theorem gX10_told_X10_toldOf : GoodIn wsX10_told (wsV RX10 132 RX10 yX10_toldOf wsX10_toldOf) := goodIn_app (goodIn_of _ (by decide +kernel)) ggX10_told_X10_toldOf
set_option maxRecDepth 20000 in
theorem ggX10_sumOf_X10_sumAll : GoodIn wsX10_sumOf wsX10_sumAll := goodIn_r _ [6, 7, 8, 9, 1, 10, 11, 12, 13, 14, 5, 15, 16, 17, 18, 19, 20, 21, 22, 23, 24, 25, 26, 27, 28, 29, 30, 31, 32, 33, 34, 35, 36, 37, 38, 39, 40, 41, 42, 43, 44, 45, 46, 47, 48, 49, 50, 51, 52, 53, 54, 55, 56, 57, 58, 59, 60, 61] (by decide +kernel) (by decide +kernel)
set_option maxRecDepth 20000 in
theorem gX10_sumOf_X10_sumAll : GoodIn wsX10_sumOf (wsV RX10 129 RX10 yX10_sumAll wsX10_sumAll) := goodIn_app (goodIn_of _ (by decide +kernel)) ggX10_sumOf_X10_sumAll
set_option maxRecDepth 20000 in
theorem ggX10_groundOf_X10_sumOf : GoodIn wsX10_groundOf wsX10_sumOf := goodIn_r _ [6, 7, 8, 9, 10, 5, 11, 12, 13, 1, 14, 15, 16, 17, 18, 19, 20, 21, 22, 23, 24, 25, 26, 27, 28, 29, 30, 31, 32, 33, 34, 35, 36, 37, 38, 39, 40, 41, 42, 43, 44, 45, 46, 47, 48, 49, 50, 51, 52, 53, 54, 55, 56, 57, 58, 59, 60, 61, 62, 63, 64, 65] (by decide +kernel) (by decide +kernel)
set_option maxRecDepth 20000 in
theorem gX10_groundOf_X10_sumOf : GoodIn wsX10_groundOf (wsV RX10 135 RX10 yX10_sumOf wsX10_sumOf) := goodIn_app (goodIn_of _ (by decide +kernel)) ggX10_groundOf_X10_sumOf
set_option maxRecDepth 20000 in
theorem ggX10_groundOf_X10_floored : GoodIn wsX10_groundOf wsX10_floored := goodIn_r _ [27] (by decide +kernel) (by decide +kernel)
set_option maxRecDepth 20000 in
theorem gX10_groundOf_X10_floored : GoodIn wsX10_groundOf (va_wsS RX10 118 yX10_floored wsX10_floored) := goodIn_app (goodIn_of _ (by decide +kernel)) ggX10_groundOf_X10_floored
set_option maxRecDepth 20000 in
theorem ggX10_finalOf_X10_sumOf : GoodIn wsX10_finalOf wsX10_sumOf := goodIn_r _ [8, 9, 10, 11, 12, 7, 13, 14, 15, 16, 17, 18, 19, 20, 21, 22, 23, 24, 25, 26, 27, 28, 29, 30, 31, 32, 33, 34, 39, 40, 41, 42, 43, 44, 45, 46, 47, 48, 49, 50, 51, 52, 53, 54, 55, 56, 57, 58, 59, 60, 61, 62, 63, 64, 65, 66, 67, 68, 69, 70, 71, 72] (by decide +kernel) (by decide +kernel)
set_option maxRecDepth 20000 in
theorem gX10_finalOf_X10_sumOf : GoodIn wsX10_finalOf (wsV RX10 135 RX10 yX10_sumOf wsX10_sumOf) := goodIn_app (goodIn_of _ (by decide +kernel)) ggX10_finalOf_X10_sumOf
set_option maxRecDepth 20000 in
theorem ggX10_finalOf_X10_groundOf : GoodIn wsX10_finalOf wsX10_groundOf := goodIn_r _ [38, 16, 4, 5, 6, 7, 8, 9, 10, 11, 12, 13, 14, 15, 17, 18, 19, 20, 21, 22, 23, 24, 25, 26, 27, 28, 29, 30, 31, 32, 33, 34, 39, 40, 41, 42, 43, 44, 45, 46, 47, 48, 49, 50, 51, 52, 53, 54, 55, 56, 57, 58, 59, 60, 61, 62, 63, 64, 65, 66, 67, 68, 69, 70, 71, 72] (by decide +kernel) (by decide +kernel)
set_option maxRecDepth 20000 in
theorem gX10_finalOf_X10_groundOf : GoodIn wsX10_finalOf (wsV RX10 139 RX10 yX10_groundOf wsX10_groundOf) := goodIn_app (goodIn_of _ (by decide +kernel)) ggX10_finalOf_X10_groundOf
set_option maxRecDepth 20000 in
theorem ggX10_about_X10_isPlot : GoodIn wsX10_about wsX10_isPlot := goodIn_r _ [9, 10, 11, 57, 58, 59, 60, 61, 62, 63, 64, 65, 66, 67, 68, 69, 70, 71, 72, 73, 74, 75, 76, 77, 78, 79, 80, 81, 82, 83, 84, 85, 86, 87, 88, 89, 90] (by decide +kernel) (by decide +kernel)
set_option maxRecDepth 20000 in
theorem gX10_about_X10_isPlot : GoodIn wsX10_about (wsV RX10 108 RX10 yX10_isPlot wsX10_isPlot) := goodIn_app (goodIn_of _ (by decide +kernel)) ggX10_about_X10_isPlot
set_option maxRecDepth 20000 in
theorem ggX10_about_X10_bad : GoodIn wsX10_about wsX10_bad := goodIn_r _ [15, 11, 57, 58, 59, 60, 61, 62, 63, 64, 65, 66, 67, 68, 69, 70, 71, 72, 73, 74, 75, 76, 77, 78, 79, 80, 81, 82, 83, 84, 85, 86, 87, 88, 89, 90] (by decide +kernel) (by decide +kernel)
set_option maxRecDepth 20000 in
theorem gX10_about_X10_bad : GoodIn wsX10_about (wsV RX10 85 RX10 yX10_bad wsX10_bad) := goodIn_app (goodIn_of _ (by decide +kernel)) ggX10_about_X10_bad
set_option maxRecDepth 20000 in
theorem ggX10_about_X10_sumOf : GoodIn wsX10_about wsX10_sumOf := goodIn_r _ [19, 20, 21, 22, 23, 8, 24, 25, 26, 10, 27, 1, 28, 29, 30, 31, 32, 33, 34, 35, 36, 37, 38, 39, 40, 41, 42, 43, 57, 58, 59, 60, 61, 62, 63, 64, 65, 66, 67, 68, 69, 70, 71, 72, 73, 74, 75, 76, 77, 78, 79, 80, 81, 82, 83, 84, 85, 86, 87, 88, 89, 90] (by decide +kernel) (by decide +kernel)
set_option maxRecDepth 20000 in
theorem gX10_about_X10_sumOf : GoodIn wsX10_about (wsV RX10 135 RX10 yX10_sumOf wsX10_sumOf) := goodIn_app (goodIn_of _ (by decide +kernel)) ggX10_about_X10_sumOf
set_option maxRecDepth 20000 in
theorem ggX10_about_X10_toldOf : GoodIn wsX10_about wsX10_toldOf := goodIn_r _ [47, 27, 21, 22, 23, 8, 24, 25, 26, 10, 20, 1, 28, 29, 30, 31, 32, 33, 34, 35, 36, 37, 38, 39, 40, 41, 42, 43, 57, 58, 59, 60, 61, 62, 63, 64, 65, 66, 67, 68, 69, 70, 71, 72, 73, 74, 75, 76, 77, 78, 79, 80, 81, 82, 83, 84, 85, 86, 87, 88, 89, 90] (by decide +kernel) (by decide +kernel)
set_option maxRecDepth 20000 in
theorem gX10_about_X10_toldOf : GoodIn wsX10_about (wsV RX10 132 RX10 yX10_toldOf wsX10_toldOf) := goodIn_app (goodIn_of _ (by decide +kernel)) ggX10_about_X10_toldOf
set_option maxRecDepth 20000 in
theorem ggX10_about_X10_groundOf : GoodIn wsX10_about wsX10_groundOf := goodIn_r _ [51, 10, 16, 17, 18, 8, 19, 20, 21, 22, 23, 24, 25, 26, 27, 1, 28, 29, 30, 31, 32, 33, 34, 35, 36, 37, 38, 39, 40, 41, 42, 43, 57, 58, 59, 60, 61, 62, 63, 64, 65, 66, 67, 68, 69, 70, 71, 72, 73, 74, 75, 76, 77, 78, 79, 80, 81, 82, 83, 84, 85, 86, 87, 88, 89, 90] (by decide +kernel) (by decide +kernel)
set_option maxRecDepth 20000 in
theorem gX10_about_X10_groundOf : GoodIn wsX10_about (wsV RX10 139 RX10 yX10_groundOf wsX10_groundOf) := goodIn_app (goodIn_of _ (by decide +kernel)) ggX10_about_X10_groundOf
set_option maxRecDepth 20000 in
theorem ggX10_about_X10_finalOf : GoodIn wsX10_about wsX10_finalOf := goodIn_r _ [55, 2, 56, 3, 16, 17, 18, 8, 19, 20, 21, 22, 23, 24, 25, 26, 10, 27, 1, 28, 29, 30, 31, 32, 33, 34, 35, 36, 37, 38, 39, 40, 41, 42, 43, 48, 49, 50, 51, 57, 58, 59, 60, 61, 62, 63, 64, 65, 66, 67, 68, 69, 70, 71, 72, 73, 74, 75, 76, 77, 78, 79, 80, 81, 82, 83, 84, 85, 86, 87, 88, 89, 90] (by decide +kernel) (by decide +kernel)
set_option maxRecDepth 20000 in
theorem gX10_about_X10_finalOf : GoodIn wsX10_about (wsV RX10 142 RX10 yX10_finalOf wsX10_finalOf) := goodIn_app (goodIn_of _ (by decide +kernel)) ggX10_about_X10_finalOf
set_option maxRecDepth 20000 in
theorem ggX10_minutes_X10_isPlot : GoodIn wsX10_minutes wsX10_isPlot := goodIn_r _ [6, 7, 8, 16, 17, 18, 19, 20, 21, 22, 23, 24, 25, 26, 27, 28, 29, 30, 31, 32, 33, 34, 35, 36, 37, 38, 39, 40, 41, 42, 43, 44, 45, 46, 47, 48, 49] (by decide +kernel) (by decide +kernel)
set_option maxRecDepth 20000 in
theorem gX10_minutes_X10_isPlot : GoodIn wsX10_minutes (wsV RX10 108 RX10 yX10_isPlot wsX10_isPlot) := goodIn_app (goodIn_of _ (by decide +kernel)) ggX10_minutes_X10_isPlot
set_option maxRecDepth 20000 in
theorem ggX10_minutes_X10_isMinutes : GoodIn wsX10_minutes wsX10_isMinutes := goodIn_r _ [11] (by decide +kernel) (by decide +kernel)
set_option maxRecDepth 20000 in
theorem gX10_minutes_X10_isMinutes : GoodIn wsX10_minutes (va_wsS RX10 145 yX10_isMinutes wsX10_isMinutes) := goodIn_app (goodIn_of _ (by decide +kernel)) ggX10_minutes_X10_isMinutes
set_option maxRecDepth 20000 in
theorem ggX10_minutes_X10_bad : GoodIn wsX10_minutes wsX10_bad := goodIn_r _ [15, 8, 16, 17, 18, 19, 20, 21, 22, 23, 24, 25, 26, 27, 28, 29, 30, 31, 32, 33, 34, 35, 36, 37, 38, 39, 40, 41, 42, 43, 44, 45, 46, 47, 48, 49] (by decide +kernel) (by decide +kernel)
set_option maxRecDepth 20000 in
theorem gX10_minutes_X10_bad : GoodIn wsX10_minutes (wsV RX10 85 RX10 yX10_bad wsX10_bad) := goodIn_app (goodIn_of _ (by decide +kernel)) ggX10_minutes_X10_bad
set_option maxRecDepth 20000 in
theorem ggX10_limit_X10_isMinutes : GoodIn wsX10_limit wsX10_isMinutes := goodIn_r _ [6] (by decide +kernel) (by decide +kernel)
set_option maxRecDepth 20000 in
theorem gX10_limit_X10_isMinutes : GoodIn wsX10_limit (va_wsS RX10 145 yX10_isMinutes wsX10_isMinutes) := goodIn_app (goodIn_of _ (by decide +kernel)) ggX10_limit_X10_isMinutes
set_option maxRecDepth 20000 in
theorem ggX10_limit_X10_bad : GoodIn wsX10_limit wsX10_bad := goodIn_r _ [10, 1, 11, 12, 13, 14, 15, 16, 17, 18, 19, 20, 21, 22, 23, 24, 25, 26, 27, 28, 29, 30, 31, 32, 33, 34, 35, 36, 37, 38, 39, 40, 41, 42, 43, 44] (by decide +kernel) (by decide +kernel)
set_option maxRecDepth 20000 in
theorem gX10_limit_X10_bad : GoodIn wsX10_limit (wsV RX10 85 RX10 yX10_bad wsX10_bad) := goodIn_app (goodIn_of _ (by decide +kernel)) ggX10_limit_X10_bad
set_option maxRecDepth 20000 in
theorem ggX10_protest_X10_isPlot : GoodIn wsX10_protest wsX10_isPlot := goodIn_r _ [6, 7, 8, 13, 14, 15, 16, 17, 18, 19, 20, 21, 22, 23, 24, 25, 26, 27, 28, 29, 30, 31, 32, 33, 34, 35, 36, 37, 38, 39, 40, 41, 42, 43, 44, 45, 46] (by decide +kernel) (by decide +kernel)
set_option maxRecDepth 20000 in
theorem gX10_protest_X10_isPlot : GoodIn wsX10_protest (wsV RX10 108 RX10 yX10_isPlot wsX10_isPlot) := goodIn_app (goodIn_of _ (by decide +kernel)) ggX10_protest_X10_isPlot
set_option maxRecDepth 20000 in
theorem ggX10_protest_X10_bad : GoodIn wsX10_protest wsX10_bad := goodIn_r _ [12, 8, 13, 14, 15, 16, 17, 18, 19, 20, 21, 22, 23, 24, 25, 26, 27, 28, 29, 30, 31, 32, 33, 34, 35, 36, 37, 38, 39, 40, 41, 42, 43, 44, 45, 46] (by decide +kernel) (by decide +kernel)
set_option maxRecDepth 20000 in
theorem gX10_protest_X10_bad : GoodIn wsX10_protest (wsV RX10 85 RX10 yX10_bad wsX10_bad) := goodIn_app (goodIn_of _ (by decide +kernel)) ggX10_protest_X10_bad
set_option maxRecDepth 20000 in
theorem ggX10_blanks_X10_byteAt : GoodIn wsX10_blanks wsX10_byteAt := goodIn_r _ [7, 2, 8, 9, 10, 11, 12, 13, 14, 15, 16, 17, 18, 19, 20, 21, 22, 23, 24, 25, 26, 27, 28, 29, 30, 31, 32, 33, 34, 35, 36, 37, 38, 39, 40, 41, 42] (by decide +kernel) (by decide +kernel)
set_option maxRecDepth 20000 in
theorem gX10_blanks_X10_byteAt : GoodIn wsX10_blanks (wsV RX10 157 RX10 yX10_byteAt wsX10_byteAt) := goodIn_app (goodIn_of _ (by decide +kernel)) ggX10_blanks_X10_byteAt
set_option maxRecDepth 20000 in
theorem ggX10_eat_X10_blanks : GoodIn wsX10_eat wsX10_blanks := goodIn_r _ [6, 1, 7, 8, 9, 10, 5, 11, 12, 62, 63, 64, 65, 66, 67, 68, 69, 70, 71, 72, 73, 74, 75, 76, 77, 78, 79, 80, 81, 82, 83, 84, 85, 86, 87, 88, 89, 90, 91, 92, 93, 94, 95] (by decide +kernel) (by decide +kernel)
set_option maxRecDepth 20000 in
theorem gX10_eat_X10_blanks : GoodIn wsX10_eat (wsV RX10 160 RX10 yX10_blanks wsX10_blanks) := goodIn_app (goodIn_of _ (by decide +kernel)) ggX10_eat_X10_blanks
set_option maxRecDepth 20000 in
theorem ggX10_eat_J0_length_8abf5 : GoodIn wsX10_eat wsJ0_length_8abf5 := goodIn_r _ [17, 18, 19, 20, 21, 16, 22, 23, 24] (by decide +kernel) (by decide +kernel)
set_option maxRecDepth 20000 in
theorem gX10_eat_J0_length_8abf5 : GoodIn wsX10_eat (wsV RX10 163 RJ0 yJ0_length_8abf5 wsJ0_length_8abf5) := goodIn_app (goodIn_of _ (by decide +kernel)) ggX10_eat_J0_length_8abf5
set_option maxRecDepth 20000 in
theorem ggX10_eat_X10_byteAt : GoodIn wsX10_eat wsX10_byteAt := goodIn_r _ [11, 7, 12, 62, 63, 64, 65, 66, 67, 68, 69, 70, 71, 72, 73, 74, 75, 76, 77, 78, 79, 80, 81, 82, 83, 84, 85, 86, 87, 88, 89, 90, 91, 92, 93, 94, 95] (by decide +kernel) (by decide +kernel)
set_option maxRecDepth 20000 in
theorem gX10_eat_X10_byteAt : GoodIn wsX10_eat (wsV RX10 157 RX10 yX10_byteAt wsX10_byteAt) := goodIn_app (goodIn_of _ (by decide +kernel)) ggX10_eat_X10_byteAt
set_option maxRecDepth 20000 in
theorem ggX10_eat_J0_charAt_5068e : GoodIn wsX10_eat wsJ0_charAt_5068e := goodIn_r _ [28, 18, 29, 30, 31, 16, 32, 23, 24, 33, 34, 35, 36, 37, 38, 39, 40, 41, 42, 43, 44, 45, 46, 47, 48, 49, 50, 51, 52, 53, 54, 55, 56, 57, 58, 59, 60, 61] (by decide +kernel) (by decide +kernel)
set_option maxRecDepth 20000 in
theorem gX10_eat_J0_charAt_5068e : GoodIn wsX10_eat (wsV RX10 169 RJ0 yJ0_charAt_5068e wsJ0_charAt_5068e) := goodIn_app (goodIn_of _ (by decide +kernel)) ggX10_eat_J0_charAt_5068e
set_option maxRecDepth 20000 in
theorem ggX10_key_X10_eat : GoodIn wsX10_key wsX10_eat := goodIn_r _ [9, 2, 10, 11, 12, 8, 13, 14, 15, 16, 17, 18, 19, 20, 21, 22, 23, 24, 25, 26, 27, 28, 29, 30, 31, 32, 33, 34, 35, 36, 37, 38, 39, 40, 41, 42, 43, 44, 45, 46, 47, 48, 49, 50, 51, 52, 53, 54, 55, 56, 57, 58, 59, 60, 61, 62, 63, 64, 65, 66, 67, 68, 69, 70, 71, 72, 73, 74, 75, 76, 77, 78, 79, 80, 81, 82, 83, 84, 85, 86, 87, 88, 89, 90, 91, 92, 93, 94, 95, 96, 97, 98, 99, 100, 101, 102] (by decide +kernel) (by decide +kernel)
set_option maxRecDepth 20000 in
theorem gX10_key_X10_eat : GoodIn wsX10_key (wsV RX10 175 RX10 yX10_eat wsX10_eat) := goodIn_app (goodIn_of _ (by decide +kernel)) ggX10_key_X10_eat
set_option maxRecDepth 20000 in
theorem ggX10_key_X10_blanks : GoodIn wsX10_key wsX10_blanks := goodIn_r _ [13, 2, 14, 15, 16, 17, 8, 18, 19, 69, 70, 71, 72, 73, 74, 75, 76, 77, 78, 79, 80, 81, 82, 83, 84, 85, 86, 87, 88, 89, 90, 91, 92, 93, 94, 95, 96, 97, 98, 99, 100, 101, 102] (by decide +kernel) (by decide +kernel)
set_option maxRecDepth 20000 in
theorem gX10_key_X10_blanks : GoodIn wsX10_key (wsV RX10 160 RX10 yX10_blanks wsX10_blanks) := goodIn_app (goodIn_of _ (by decide +kernel)) ggX10_key_X10_blanks
set_option maxRecDepth 20000 in
theorem ggX10_key_X10_byteAt : GoodIn wsX10_key wsX10_byteAt := goodIn_r _ [18, 14, 19, 69, 70, 71, 72, 73, 74, 75, 76, 77, 78, 79, 80, 81, 82, 83, 84, 85, 86, 87, 88, 89, 90, 91, 92, 93, 94, 95, 96, 97, 98, 99, 100, 101, 102] (by decide +kernel) (by decide +kernel)
set_option maxRecDepth 20000 in
theorem gX10_key_X10_byteAt : GoodIn wsX10_key (wsV RX10 157 RX10 yX10_byteAt wsX10_byteAt) := goodIn_app (goodIn_of _ (by decide +kernel)) ggX10_key_X10_byteAt
set_option maxRecDepth 20000 in
theorem ggX10_rule_X10_bad : GoodIn wsX10_rule wsX10_bad := goodIn_r _ [15, 1, 82, 83, 84, 85, 86, 87, 88, 89, 90, 91, 92, 93, 94, 95, 96, 97, 98, 99, 100, 101, 102, 103, 104, 105, 106, 107, 108, 109, 110, 111, 112, 113, 114, 115] (by decide +kernel) (by decide +kernel)
set_option maxRecDepth 20000 in
theorem gX10_rule_X10_bad : GoodIn wsX10_rule (wsV RX10 85 RX10 yX10_bad wsX10_bad) := goodIn_app (goodIn_of _ (by decide +kernel)) ggX10_rule_X10_bad
set_option maxRecDepth 20000 in
theorem ggX10_rule_X10_key : GoodIn wsX10_rule wsX10_key := goodIn_r _ [19, 5, 4, 7, 9, 20, 21, 22, 14, 23, 24, 25, 26, 27, 3, 28, 29, 30, 31, 32, 33, 34, 35, 36, 37, 38, 39, 40, 41, 42, 43, 44, 45, 46, 47, 48, 49, 50, 51, 52, 53, 54, 55, 56, 57, 58, 59, 60, 61, 62, 63, 64, 65, 66, 67, 68, 69, 70, 71, 72, 73, 74, 75, 76, 77, 78, 79, 80, 81, 82, 83, 84, 85, 86, 87, 88, 89, 90, 91, 92, 93, 94, 95, 96, 97, 98, 99, 100, 101, 102, 103, 104, 105, 106, 107, 108, 109, 110, 111, 112, 113, 114, 115] (by decide +kernel) (by decide +kernel)
set_option maxRecDepth 20000 in
theorem gX10_rule_X10_key : GoodIn wsX10_rule (wsV RX10 193 RX10 yX10_key wsX10_key) := goodIn_app (goodIn_of _ (by decide +kernel)) ggX10_rule_X10_key
set_option maxRecDepth 20000 in
theorem ggX10_rule_X10_blanks : GoodIn wsX10_rule wsX10_blanks := goodIn_r _ [27, 4, 3, 28, 29, 30, 14, 31, 32, 82, 83, 84, 85, 86, 87, 88, 89, 90, 91, 92, 93, 94, 95, 96, 97, 98, 99, 100, 101, 102, 103, 104, 105, 106, 107, 108, 109, 110, 111, 112, 113, 114, 115] (by decide +kernel) (by decide +kernel)
set_option maxRecDepth 20000 in
theorem gX10_rule_X10_blanks : GoodIn wsX10_rule (wsV RX10 160 RX10 yX10_blanks wsX10_blanks) := goodIn_app (goodIn_of _ (by decide +kernel)) ggX10_rule_X10_blanks
set_option maxRecDepth 20000 in
theorem ggX10_rule_X10_byteAt : GoodIn wsX10_rule wsX10_byteAt := goodIn_r _ [31, 3, 32, 82, 83, 84, 85, 86, 87, 88, 89, 90, 91, 92, 93, 94, 95, 96, 97, 98, 99, 100, 101, 102, 103, 104, 105, 106, 107, 108, 109, 110, 111, 112, 113, 114, 115] (by decide +kernel) (by decide +kernel)
set_option maxRecDepth 20000 in
theorem gX10_rule_X10_byteAt : GoodIn wsX10_rule (wsV RX10 157 RX10 yX10_byteAt wsX10_byteAt) := goodIn_app (goodIn_of _ (by decide +kernel)) ggX10_rule_X10_byteAt
set_option maxRecDepth 20000 in
theorem ggX10_valueOf_X10_finalOf : GoodIn wsX10_valueOf wsX10_finalOf := goodIn_r _ [8, 2, 9, 10, 11, 12, 13, 7, 14, 15, 16, 17, 18, 19, 20, 21, 22, 23, 24, 25, 26, 27, 28, 29, 30, 31, 32, 33, 34, 35, 36, 37, 38, 39, 40, 41, 42, 43, 44, 49, 50, 51, 52, 53, 54, 55, 56, 57, 58, 59, 60, 61, 62, 63, 64, 65, 66, 67, 68, 69, 70, 71, 72, 73, 74, 75, 76, 77, 78, 79, 80, 81, 82] (by decide +kernel) (by decide +kernel)
set_option maxRecDepth 20000 in
theorem gX10_valueOf_X10_finalOf : GoodIn wsX10_valueOf (wsV RX10 142 RX10 yX10_finalOf wsX10_finalOf) := goodIn_app (goodIn_of _ (by decide +kernel)) ggX10_valueOf_X10_finalOf
set_option maxRecDepth 20000 in
theorem ggX10_valueOf_X10_sumOf : GoodIn wsX10_valueOf wsX10_sumOf := goodIn_r _ [14, 15, 16, 17, 18, 7, 19, 20, 21, 22, 23, 24, 25, 26, 27, 28, 29, 30, 31, 32, 33, 34, 35, 36, 37, 38, 39, 40, 49, 50, 51, 52, 53, 54, 55, 56, 57, 58, 59, 60, 61, 62, 63, 64, 65, 66, 67, 68, 69, 70, 71, 72, 73, 74, 75, 76, 77, 78, 79, 80, 81, 82] (by decide +kernel) (by decide +kernel)
set_option maxRecDepth 20000 in
theorem gX10_valueOf_X10_sumOf : GoodIn wsX10_valueOf (wsV RX10 135 RX10 yX10_sumOf wsX10_sumOf) := goodIn_app (goodIn_of _ (by decide +kernel)) ggX10_valueOf_X10_sumOf
set_option maxRecDepth 20000 in
theorem ggX10_valueOf_X10_toldOf : GoodIn wsX10_valueOf wsX10_toldOf := goodIn_r _ [48, 23, 16, 17, 18, 7, 19, 20, 21, 22, 15, 24, 25, 26, 27, 28, 29, 30, 31, 32, 33, 34, 35, 36, 37, 38, 39, 40, 49, 50, 51, 52, 53, 54, 55, 56, 57, 58, 59, 60, 61, 62, 63, 64, 65, 66, 67, 68, 69, 70, 71, 72, 73, 74, 75, 76, 77, 78, 79, 80, 81, 82] (by decide +kernel) (by decide +kernel)
set_option maxRecDepth 20000 in
theorem gX10_valueOf_X10_toldOf : GoodIn wsX10_valueOf (wsV RX10 132 RX10 yX10_toldOf wsX10_toldOf) := goodIn_app (goodIn_of _ (by decide +kernel)) ggX10_valueOf_X10_toldOf
set_option maxRecDepth 20000 in
theorem ggX10_values_X10_valueOf : GoodIn wsX10_values wsX10_valueOf := goodIn_r _ [9, 10, 11, 12, 13, 14, 15, 8, 16, 17, 18, 19, 20, 21, 22, 23, 24, 25, 26, 27, 28, 29, 30, 31, 32, 33, 34, 35, 36, 37, 38, 39, 40, 41, 42, 43, 44, 45, 46, 47, 48, 49, 50, 51, 52, 53, 54, 55, 56, 57, 58, 59, 60, 61, 62, 63, 64, 65, 66, 67, 68, 69, 70, 71, 72, 73, 74, 75, 76, 77, 78, 79, 80, 81, 82, 83, 84, 85, 86, 87, 88, 89, 90] (by decide +kernel) (by decide +kernel)
set_option maxRecDepth 20000 in
theorem gX10_values_X10_valueOf : GoodIn wsX10_values (wsV RX10 197 RX10 yX10_valueOf wsX10_valueOf) := goodIn_app (goodIn_of _ (by decide +kernel)) ggX10_values_X10_valueOf
set_option maxRecDepth 20000 in
theorem ggX10_rankOf_X10_isAhead : GoodIn wsX10_rankOf wsX10_isAhead := goodIn_r _ [7, 8, 9, 10, 11, 12, 13, 14, 15, 16, 17, 18, 19, 20, 21, 22, 23, 24, 25, 26, 27, 28, 29, 30, 31, 32, 33, 34, 35, 36, 37, 38, 39, 40, 41, 42, 43, 44] (by decide +kernel) (by decide +kernel)
set_option maxRecDepth 20000 in
theorem gX10_rankOf_X10_isAhead : GoodIn wsX10_rankOf (wsV RX10 200 RX10 yX10_isAhead wsX10_isAhead) := goodIn_app (goodIn_of _ (by decide +kernel)) ggX10_rankOf_X10_isAhead
set_option maxRecDepth 20000 in
theorem ggX10_rank_X10_bad : GoodIn wsX10_rank wsX10_bad := goodIn_r _ [7, 1, 76, 77, 78, 79, 80, 81, 82, 83, 84, 85, 86, 87, 88, 89, 90, 91, 92, 93, 94, 95, 96, 97, 98, 99, 100, 101, 102, 103, 104, 105, 106, 107, 108, 109] (by decide +kernel) (by decide +kernel)
set_option maxRecDepth 20000 in
theorem gX10_rank_X10_bad : GoodIn wsX10_rank (wsV RX10 85 RX10 yX10_bad wsX10_bad) := goodIn_app (goodIn_of _ (by decide +kernel)) ggX10_rank_X10_bad
set_option maxRecDepth 20000 in
theorem ggX10_rank_X10_values : GoodIn wsX10_rank wsX10_values := goodIn_r _ [11, 12, 13, 14, 15, 16, 17, 18, 6, 19, 20, 21, 22, 23, 24, 25, 26, 27, 28, 29, 30, 31, 32, 33, 34, 35, 36, 37, 38, 39, 2, 40, 41, 42, 43, 44, 45, 46, 47, 48, 49, 50, 51, 52, 53, 54, 55, 56, 57, 58, 59, 60, 61, 62, 63, 64, 65, 76, 77, 78, 79, 80, 81, 82, 83, 84, 85, 86, 87, 88, 89, 90, 91, 92, 93, 94, 95, 96, 97, 98, 99, 100, 101, 102, 103, 104, 105, 106, 107, 108, 109] (by decide +kernel) (by decide +kernel)
set_option maxRecDepth 20000 in
theorem gX10_rank_X10_values : GoodIn wsX10_rank (wsV RX10 204 RX10 yX10_values wsX10_values) := goodIn_app (goodIn_of _ (by decide +kernel)) ggX10_rank_X10_values
set_option maxRecDepth 20000 in
theorem ggX10_rank_X10_rankOf : GoodIn wsX10_rank wsX10_rankOf := goodIn_r _ [69, 12, 70, 71, 72, 73, 6, 74, 13, 14, 75, 76, 77, 78, 79, 80, 81, 82, 83, 84, 85, 86, 87, 88, 89, 90, 91, 92, 93, 94, 95, 96, 97, 98, 99, 100, 101, 102, 103, 104, 105, 106, 107, 108, 109] (by decide +kernel) (by decide +kernel)
set_option maxRecDepth 20000 in
theorem gX10_rank_X10_rankOf : GoodIn wsX10_rank (wsV RX10 206 RX10 yX10_rankOf wsX10_rankOf) := goodIn_app (goodIn_of _ (by decide +kernel)) ggX10_rank_X10_rankOf
set_option maxRecDepth 20000 in
theorem ggX10_publish_X10_values : GoodIn wsX10_publish wsX10_values := goodIn_r _ [14, 15, 16, 17, 18, 19, 20, 21, 13, 22, 23, 24, 25, 26, 27, 28, 29, 30, 31, 32, 33, 34, 35, 36, 37, 38, 39, 40, 41, 42, 2, 43, 44, 45, 46, 47, 48, 49, 50, 51, 52, 53, 54, 55, 56, 57, 58, 59, 60, 61, 62, 63, 64, 65, 66, 67, 68, 86, 87, 88, 89, 90, 91, 92, 93, 94, 95, 96, 97, 98, 99, 100, 101, 102, 103, 104, 105, 106, 107, 108, 109, 110, 111, 112, 113, 114, 115, 116, 117, 118, 119] (by decide +kernel) (by decide +kernel)
set_option maxRecDepth 20000 in
theorem gX10_publish_X10_values : GoodIn wsX10_publish (wsV RX10 204 RX10 yX10_values wsX10_values) := goodIn_app (goodIn_of _ (by decide +kernel)) ggX10_publish_X10_values
set_option maxRecDepth 20000 in
theorem ggX10_publish_X10_rankOf : GoodIn wsX10_publish wsX10_rankOf := goodIn_r _ [72, 15, 73, 74, 75, 76, 13, 77, 16, 17, 78, 86, 87, 88, 89, 90, 91, 92, 93, 94, 95, 96, 97, 98, 99, 100, 101, 102, 103, 104, 105, 106, 107, 108, 109, 110, 111, 112, 113, 114, 115, 116, 117, 118, 119] (by decide +kernel) (by decide +kernel)
set_option maxRecDepth 20000 in
theorem gX10_publish_X10_rankOf : GoodIn wsX10_publish (wsV RX10 206 RX10 yX10_rankOf wsX10_rankOf) := goodIn_app (goodIn_of _ (by decide +kernel)) ggX10_publish_X10_rankOf
set_option maxRecDepth 20000 in
theorem ggX10_publish_X10_pointsOf : GoodIn wsX10_publish wsX10_pointsOf := goodIn_r _ [81] (by decide +kernel) (by decide +kernel)
set_option maxRecDepth 20000 in
theorem gX10_publish_X10_pointsOf : GoodIn wsX10_publish (va_wsS RX10 212 yX10_pointsOf wsX10_pointsOf) := goodIn_app (goodIn_of _ (by decide +kernel)) ggX10_publish_X10_pointsOf
set_option maxRecDepth 20000 in
theorem ggX10_publish_X10_toldOfClub : GoodIn wsX10_publish wsX10_toldOfClub := goodIn_r _ [85, 6, 8, 7, 9, 86, 87, 88, 89, 90, 91, 92, 93, 94, 95, 96, 97, 98, 99, 100, 101, 102, 103, 104, 105, 106, 107, 108, 109, 110, 111, 112, 113, 114, 115, 116, 117, 118, 119] (by decide +kernel) (by decide +kernel)
set_option maxRecDepth 20000 in
theorem gX10_publish_X10_toldOfClub : GoodIn wsX10_publish (wsV RX10 218 RX10 yX10_toldOfClub wsX10_toldOfClub) := goodIn_app (goodIn_of _ (by decide +kernel)) ggX10_publish_X10_toldOfClub
set_option maxRecDepth 20000 in
theorem ggX10_points_X10_bad : GoodIn wsX10_points wsX10_bad := goodIn_r _ [6, 1, 15, 16, 17, 18, 19, 20, 21, 22, 23, 24, 25, 26, 27, 28, 29, 30, 31, 32, 33, 34, 35, 36, 37, 38, 39, 40, 41, 42, 43, 44, 45, 46, 47, 48] (by decide +kernel) (by decide +kernel)
set_option maxRecDepth 20000 in
theorem gX10_points_X10_bad : GoodIn wsX10_points (wsV RX10 85 RX10 yX10_bad wsX10_bad) := goodIn_app (goodIn_of _ (by decide +kernel)) ggX10_points_X10_bad
set_option maxRecDepth 20000 in
theorem ggX10_points_X10_toldOfClub : GoodIn wsX10_points wsX10_toldOfClub := goodIn_r _ [10, 11, 12, 13, 14, 15, 16, 17, 18, 19, 20, 21, 22, 23, 24, 25, 26, 27, 28, 29, 30, 31, 32, 33, 34, 35, 36, 37, 38, 39, 40, 41, 42, 43, 44, 45, 46, 47, 48] (by decide +kernel) (by decide +kernel)
set_option maxRecDepth 20000 in
theorem gX10_points_X10_toldOfClub : GoodIn wsX10_points (wsV RX10 218 RX10 yX10_toldOfClub wsX10_toldOfClub) := goodIn_app (goodIn_of _ (by decide +kernel)) ggX10_points_X10_toldOfClub
set_option maxRecDepth 20000 in
theorem ggX10_line_X10_bad : GoodIn wsX10_line wsX10_bad := goodIn_r _ [10, 1, 11, 12, 13, 14, 15, 16, 17, 18, 19, 20, 21, 22, 23, 24, 25, 26, 27, 28, 29, 30, 31, 32, 33, 34, 35, 36, 37, 38, 39, 40, 41, 42, 43, 44] (by decide +kernel) (by decide +kernel)
set_option maxRecDepth 20000 in
theorem gX10_line_X10_bad : GoodIn wsX10_line (wsV RX10 85 RX10 yX10_bad wsX10_bad) := goodIn_app (goodIn_of _ (by decide +kernel)) ggX10_line_X10_bad
set_option maxRecDepth 20000 in
theorem ggX10_wait_X10_bad : GoodIn wsX10_wait wsX10_bad := goodIn_r _ [7, 1, 8, 9, 10, 11, 12, 13, 14, 15, 16, 17, 18, 19, 20, 21, 22, 23, 24, 25, 26, 27, 28, 29, 30, 31, 32, 33, 34, 35, 36, 37, 38, 39, 40, 41] (by decide +kernel) (by decide +kernel)
set_option maxRecDepth 20000 in
theorem gX10_wait_X10_bad : GoodIn wsX10_wait (wsV RX10 85 RX10 yX10_bad wsX10_bad) := goodIn_app (goodIn_of _ (by decide +kernel)) ggX10_wait_X10_bad
set_option maxRecDepth 20000 in
theorem ggJ0_length_8abf5_J0_coder_7d493 : GoodIn wsJ0_length_8abf5 wsJ0_coder_7d493 := goodIn_r _ [6, 7, 8] (by decide +kernel) (by decide +kernel)
set_option maxRecDepth 20000 in
theorem gJ0_length_8abf5_J0_coder_7d493 : GoodIn wsJ0_length_8abf5 (wsV RJ0 335 RJ0 yJ0_coder_7d493 wsJ0_coder_7d493) := goodIn_app (goodIn_of _ (by decide +kernel)) ggJ0_length_8abf5_J0_coder_7d493
set_option maxRecDepth 20000 in
theorem ggJ0_charAt_5068e_J0_isLatin1_aae02 : GoodIn wsJ0_charAt_5068e wsJ0_isLatin1_aae02 := goodIn_r _ [6, 7, 8] (by decide +kernel) (by decide +kernel)
set_option maxRecDepth 20000 in
theorem gJ0_charAt_5068e_J0_isLatin1_aae02 : GoodIn wsJ0_charAt_5068e (wsV RJ0 492 RJ0 yJ0_isLatin1_aae02 wsJ0_isLatin1_aae02) := goodIn_app (goodIn_of _ (by decide +kernel)) ggJ0_charAt_5068e_J0_isLatin1_aae02
set_option maxRecDepth 20000 in
theorem ggJ0_charAt_5068e_J1_charAt_3b067 : GoodIn wsJ0_charAt_5068e wsJ1_charAt_3b067 := goodIn_r _ [12, 13, 14, 5, 15, 16, 17, 18, 19, 20] (by decide +kernel) (by decide +kernel)
set_option maxRecDepth 20000 in
theorem gJ0_charAt_5068e_J1_charAt_3b067 : GoodIn wsJ0_charAt_5068e (va_wsS RJ0 495 yJ1_charAt_3b067 wsJ1_charAt_3b067) := goodIn_app (goodIn_of _ (by decide +kernel)) ggJ0_charAt_5068e_J1_charAt_3b067
set_option maxRecDepth 20000 in
theorem ggJ0_charAt_5068e_J2_charAt_3b067 : GoodIn wsJ0_charAt_5068e wsJ2_charAt_3b067 := goodIn_r _ [24, 25, 26, 23, 27, 28, 29, 30, 31, 14, 5, 15, 16, 17, 18, 19, 20, 32, 33, 34, 35, 36, 37] (by decide +kernel) (by decide +kernel)
set_option maxRecDepth 20000 in
theorem gJ0_charAt_5068e_J2_charAt_3b067 : GoodIn wsJ0_charAt_5068e (va_wsS RJ0 498 yJ2_charAt_3b067 wsJ2_charAt_3b067) := goodIn_app (goodIn_of _ (by decide +kernel)) ggJ0_charAt_5068e_J2_charAt_3b067
set_option maxRecDepth 20000 in
theorem ggJ0_checkIndex_df160_J3_checkIndex_8e157 : GoodIn wsJ0_checkIndex_df160 wsJ3_checkIndex_8e157 := goodIn_r _ [5] (by decide +kernel) (by decide +kernel)
set_option maxRecDepth 20000 in
theorem gJ0_checkIndex_df160_J3_checkIndex_8e157 : GoodIn wsJ0_checkIndex_df160 (va_wsS RJ0 1059 yJ3_checkIndex_8e157 wsJ3_checkIndex_8e157) := goodIn_app (goodIn_of _ (by decide +kernel)) ggJ0_checkIndex_df160_J3_checkIndex_8e157
set_option maxRecDepth 20000 in
theorem ggJ1_charAt_3b067_J0_checkIndex_df160 : GoodIn wsJ1_charAt_3b067 wsJ0_checkIndex_df160 := goodIn_r _ [4, 5, 6, 7, 8, 9] (by decide +kernel) (by decide +kernel)
set_option maxRecDepth 20000 in
theorem gJ1_charAt_3b067_J0_checkIndex_df160 : GoodIn wsJ1_charAt_3b067 (va_wsS RJ1 9 yJ0_checkIndex_df160 wsJ0_checkIndex_df160) := goodIn_app (goodIn_of _ (by decide +kernel)) ggJ1_charAt_3b067_J0_checkIndex_df160
set_option maxRecDepth 20000 in
theorem ggJ2_getChar_3b067_J2_length_9d52b : GoodIn wsJ2_getChar_3b067 wsJ2_length_9d52b := goodIn_r _ [7] (by decide +kernel) (by decide +kernel)
set_option maxRecDepth 20000 in
theorem gJ2_getChar_3b067_J2_length_9d52b : GoodIn wsJ2_getChar_3b067 (va_wsS RJ2 48 yJ2_length_9d52b wsJ2_length_9d52b) := goodIn_app (goodIn_of _ (by decide +kernel)) ggJ2_getChar_3b067_J2_length_9d52b
set_option maxRecDepth 20000 in
theorem ggJ2_charAt_3b067_J2_checkIndex_2214a : GoodIn wsJ2_charAt_3b067 wsJ2_checkIndex_2214a := goodIn_r _ [4, 5, 6, 3, 7, 8, 9, 10, 11, 12, 13, 14, 15, 16] (by decide +kernel) (by decide +kernel)
set_option maxRecDepth 20000 in
theorem gJ2_charAt_3b067_J2_checkIndex_2214a : GoodIn wsJ2_charAt_3b067 (va_wsS RJ2 67 yJ2_checkIndex_2214a wsJ2_checkIndex_2214a) := goodIn_app (goodIn_of _ (by decide +kernel)) ggJ2_charAt_3b067_J2_checkIndex_2214a
set_option maxRecDepth 20000 in
theorem ggJ2_charAt_3b067_J2_getChar_3b067 : GoodIn wsJ2_charAt_3b067 wsJ2_getChar_3b067 := goodIn_r _ [19, 20, 21, 22, 5, 6, 3, 7] (by decide +kernel) (by decide +kernel)
set_option maxRecDepth 20000 in
theorem gJ2_charAt_3b067_J2_getChar_3b067 : GoodIn wsJ2_charAt_3b067 (va_wsS RJ2 71 yJ2_getChar_3b067 wsJ2_getChar_3b067) := goodIn_app (goodIn_of _ (by decide +kernel)) ggJ2_charAt_3b067_J2_getChar_3b067
set_option maxRecDepth 20000 in
theorem ggJ2_checkIndex_2214a_J2_length_9d52b : GoodIn wsJ2_checkIndex_2214a wsJ2_length_9d52b := goodIn_r _ [4] (by decide +kernel) (by decide +kernel)
set_option maxRecDepth 20000 in
theorem gJ2_checkIndex_2214a_J2_length_9d52b : GoodIn wsJ2_checkIndex_2214a (va_wsS RJ2 48 yJ2_length_9d52b wsJ2_length_9d52b) := goodIn_app (goodIn_of _ (by decide +kernel)) ggJ2_checkIndex_2214a_J2_length_9d52b
set_option maxRecDepth 20000 in
theorem ggJ2_checkIndex_2214a_J0_checkIndex_df160 : GoodIn wsJ2_checkIndex_2214a wsJ0_checkIndex_df160 := goodIn_r _ [8, 9, 10, 11, 12, 13] (by decide +kernel) (by decide +kernel)
set_option maxRecDepth 20000 in
theorem gJ2_checkIndex_2214a_J0_checkIndex_df160 : GoodIn wsJ2_checkIndex_2214a (va_wsS RJ2 414 yJ0_checkIndex_df160 wsJ0_checkIndex_df160) := goodIn_app (goodIn_of _ (by decide +kernel)) ggJ2_checkIndex_2214a_J0_checkIndex_df160
set_option maxRecDepth 20000 in
theorem ggL_ploughman_X9_ploughman : GoodIn wsL_ploughman wsX9_ploughman := goodIn_ca (goodIn_ca (goodIn_r _ [7, 8, 9, 10, 11, 12, 6, 13, 14, 15, 16, 17, 18, 19, 20, 21, 22, 23, 24, 25, 26, 27, 28, 29, 30, 31, 32, 33, 34, 35, 36, 37, 38, 39, 40, 41, 42, 43, 44, 45, 46, 47, 48, 49, 50, 51, 52, 53, 54] (by decide +kernel) (by decide +kernel)) (goodIn_sub (fun _ h => List.mem_cons_of_mem _ (List.mem_append_left _ (List.mem_append_right _ h))) (by decide +kernel))) (goodIn_sub (fun _ h => List.mem_cons_of_mem _ (List.mem_append_right _ h)) (by decide +kernel))
set_option maxRecDepth 20000 in
theorem gL_ploughman_X9_ploughman : GoodIn wsL_ploughman (wsV RL 7 RX9 yX9_ploughman wsX9_ploughman) := goodIn_app (goodIn_of _ (by decide +kernel)) ggL_ploughman_X9_ploughman
set_option maxRecDepth 20000 in
theorem ggL_draw_X9_draw : GoodIn wsL_draw wsX9_draw := goodIn_ca (goodIn_r _ [6, 7, 8, 9, 10, 11, 12, 13, 14, 15, 16, 17, 18, 19, 20, 21, 22, 23, 24, 25, 26, 27, 28, 29, 30, 31, 32, 33, 34, 35, 36, 37, 38, 39, 40, 41, 5, 42, 43, 44, 45, 46, 47, 48, 49, 50, 51, 52, 53, 54, 55, 56, 57, 58, 59, 60, 61, 62, 63, 64, 65, 66, 67, 68, 69, 70, 71, 72, 73, 74, 75, 76, 77, 78, 79] (by decide +kernel) (by decide +kernel)) (goodIn_sub (fun _ h => List.mem_cons_of_mem _ (List.mem_append_right _ h)) (by decide +kernel))
set_option maxRecDepth 20000 in
theorem gL_draw_X9_draw : GoodIn wsL_draw (wsV RL 17 RX9 yX9_draw wsX9_draw) := goodIn_app (goodIn_of _ (by decide +kernel)) ggL_draw_X9_draw
set_option maxRecDepth 20000 in
theorem ggL_plot_X9_plot : GoodIn wsL_plot wsX9_plot := goodIn_ca (goodIn_r _ [6, 7, 8, 9, 10, 11, 12, 13, 14, 15, 5, 16, 17, 18, 19, 20, 21, 22, 23, 24, 25, 26, 27, 28, 29, 30, 31, 32, 33, 34, 35, 36, 37, 38, 39, 40, 41, 42, 43, 44, 45, 46, 47, 48, 49] (by decide +kernel) (by decide +kernel)) (goodIn_sub (fun _ h => List.mem_cons_of_mem _ (List.mem_append_right _ h)) (by decide +kernel))
set_option maxRecDepth 20000 in
theorem gL_plot_X9_plot : GoodIn wsL_plot (wsV RL 21 RX9 yX9_plot wsX9_plot) := goodIn_app (goodIn_of _ (by decide +kernel)) ggL_plot_X9_plot
set_option maxRecDepth 20000 in
theorem ggL_mark_X9_mark : GoodIn wsL_mark wsX9_mark := goodIn_ca (goodIn_ca (goodIn_r _ [7, 8, 9, 10, 11, 12, 13, 14, 15, 16, 17, 18, 6, 19, 20, 21, 22, 23, 24, 25, 26, 27, 28, 29, 30, 31, 32, 33, 34, 35, 36, 37, 38, 39, 40, 41, 42, 43, 44, 45, 46, 47, 48, 49, 50, 51, 52, 53, 54, 55, 56, 57, 58, 59, 60, 61, 62, 63, 64, 65, 66, 67, 68, 69, 70, 71, 72, 73, 74, 75, 76, 77, 78, 79, 80, 81, 82, 83, 84, 85, 86, 87, 88, 89, 90, 91, 92, 93, 94, 95, 96, 97, 98, 99, 100, 101, 102, 103, 104, 105, 106] (by decide +kernel) (by decide +kernel)) (goodIn_sub (fun _ h => List.mem_cons_of_mem _ (List.mem_append_left _ (List.mem_append_right _ h))) (by decide +kernel))) (goodIn_sub (fun _ h => List.mem_cons_of_mem _ (List.mem_append_right _ h)) (by decide +kernel))
set_option maxRecDepth 20000 in
theorem gL_mark_X9_mark : GoodIn wsL_mark (wsV RL 27 RX9 yX9_mark wsX9_mark) := goodIn_app (goodIn_of _ (by decide +kernel)) ggL_mark_X9_mark
set_option maxRecDepth 20000 in
theorem ggL_hard_X9_hard : GoodIn wsL_hard wsX9_hard := goodIn_ca (goodIn_r _ [6, 7, 8, 9, 5, 10, 11, 12, 13, 14, 15, 16, 17, 18, 19, 20, 21, 22, 23, 24, 25, 26, 27, 28, 29, 30, 31, 32, 33, 34, 35, 36, 37, 38, 39] (by decide +kernel) (by decide +kernel)) (goodIn_sub (fun _ h => List.mem_cons_of_mem _ (List.mem_append_right _ h)) (by decide +kernel))
set_option maxRecDepth 20000 in
theorem gL_hard_X9_hard : GoodIn wsL_hard (wsV RL 31 RX9 yX9_hard wsX9_hard) := goodIn_app (goodIn_of _ (by decide +kernel)) ggL_hard_X9_hard
set_option maxRecDepth 20000 in
theorem ggL_told_X9_told : GoodIn wsL_told wsX9_told := goodIn_ca (goodIn_ca (goodIn_r _ [7, 8, 9, 10, 11, 12, 13, 14, 15, 16, 17, 18, 6, 19, 20, 21, 22, 23, 24, 25, 26, 27, 28, 29, 30, 31, 32, 33, 34, 35, 36, 37, 38, 39, 40, 41, 42, 43, 44, 45, 46, 47, 48, 49, 50, 51, 52, 53, 54, 55, 56, 57, 58, 59, 60] (by decide +kernel) (by decide +kernel)) (goodIn_sub (fun _ h => List.mem_cons_of_mem _ (List.mem_append_left _ (List.mem_append_right _ h))) (by decide +kernel))) (goodIn_sub (fun _ h => List.mem_cons_of_mem _ (List.mem_append_right _ h)) (by decide +kernel))
set_option maxRecDepth 20000 in
theorem gL_told_X9_told : GoodIn wsL_told (wsV RL 35 RX9 yX9_told wsX9_told) := goodIn_app (goodIn_of _ (by decide +kernel)) ggL_told_X9_told
set_option maxRecDepth 20000 in
theorem ggL_about_X9_about : GoodIn wsL_about wsX9_about := goodIn_ca (goodIn_ca (goodIn_r _ [7, 8, 9, 10, 11, 12, 13, 14, 15, 16, 17, 18, 19, 20, 21, 6, 22, 23, 24, 25, 26, 27, 28, 29, 30, 31, 32, 33, 34, 35, 36, 37, 38, 39, 40, 41, 42, 43, 44, 45, 46, 47, 48, 49, 50, 51, 52, 53, 54, 55, 56, 57, 58, 59, 60, 61, 62, 63, 64, 65, 66, 67, 68, 69, 70, 71, 72, 73, 74, 75, 76, 77, 78, 79, 80, 81, 82, 83, 84, 85, 86, 87, 88, 89, 90, 91, 92, 93, 94, 95, 96, 97, 98, 99, 100, 101, 102, 103, 104, 105] (by decide +kernel) (by decide +kernel)) (goodIn_sub (fun _ h => List.mem_cons_of_mem _ (List.mem_append_left _ (List.mem_append_right _ h))) (by decide +kernel))) (goodIn_sub (fun _ h => List.mem_cons_of_mem _ (List.mem_append_right _ h)) (by decide +kernel))
set_option maxRecDepth 20000 in
theorem gL_about_X9_about : GoodIn wsL_about (wsV RL 38 RX9 yX9_about wsX9_about) := goodIn_app (goodIn_of _ (by decide +kernel)) ggL_about_X9_about
set_option maxRecDepth 20000 in
theorem ggL_minutes_X9_minutes : GoodIn wsL_minutes wsX9_minutes := goodIn_ca (goodIn_ca (goodIn_r _ [7, 8, 9, 10, 11, 12, 13, 14, 15, 16, 17, 18, 6, 19, 20, 21, 22, 23, 24, 25, 26, 27, 28, 29, 30, 31, 32, 33, 34, 35, 36, 37, 38, 39, 40, 41, 42, 43, 44, 45, 46, 47, 48, 49, 50, 51, 52, 53, 54, 55, 56, 57] (by decide +kernel) (by decide +kernel)) (goodIn_sub (fun _ h => List.mem_cons_of_mem _ (List.mem_append_left _ (List.mem_append_right _ h))) (by decide +kernel))) (goodIn_sub (fun _ h => List.mem_cons_of_mem _ (List.mem_append_right _ h)) (by decide +kernel))
set_option maxRecDepth 20000 in
theorem gL_minutes_X9_minutes : GoodIn wsL_minutes (wsV RL 41 RX9 yX9_minutes wsX9_minutes) := goodIn_app (goodIn_of _ (by decide +kernel)) ggL_minutes_X9_minutes
set_option maxRecDepth 20000 in
theorem ggL_limit_X9_limit : GoodIn wsL_limit wsX9_limit := goodIn_ca (goodIn_r _ [6, 7, 8, 9, 5, 10, 11, 12, 13, 14, 15, 16, 17, 18, 19, 20, 21, 22, 23, 24, 25, 26, 27, 28, 29, 30, 31, 32, 33] (by decide +kernel) (by decide +kernel)) (goodIn_sub (fun _ h => List.mem_cons_of_mem _ (List.mem_append_right _ h)) (by decide +kernel))
set_option maxRecDepth 20000 in
theorem gL_limit_X9_limit : GoodIn wsL_limit (wsV RL 44 RX9 yX9_limit wsX9_limit) := goodIn_app (goodIn_of _ (by decide +kernel)) ggL_limit_X9_limit
set_option maxRecDepth 20000 in
theorem ggL_rule_X9_rule : GoodIn wsL_rule wsX9_rule := goodIn_ca (goodIn_r _ [6, 7, 8, 9, 10, 11, 12, 13, 14, 15, 16, 17, 5, 18, 19, 20, 21, 22, 23, 24, 25, 26, 27, 28, 29, 30, 31, 32, 33, 34, 35, 36, 37, 38, 39, 40, 41, 42, 43, 44, 45, 46, 47, 48, 49, 50, 51, 52, 53, 54, 55, 56, 57, 58, 59, 60, 61, 62, 63, 64, 65, 66, 67, 68, 69, 70, 71, 72, 73, 74, 75, 76, 77, 78, 79, 80, 81, 82, 83, 84, 85, 86, 87, 88, 89, 90, 91, 92, 93, 94, 95, 96, 97, 98, 99, 100, 101, 102, 103, 104, 105, 106, 107, 108, 109, 110, 111, 112, 113, 114, 115, 116, 117, 118, 119, 120, 121, 122, 123, 124, 125, 126, 127, 128, 129, 130, 131, 132, 133, 134, 135, 136, 137, 138, 139, 140, 141, 142, 143, 144, 145, 146, 147, 148, 149, 150, 151, 152, 153, 154, 155, 156, 157, 158, 159, 160, 161, 162, 163, 164] (by decide +kernel) (by decide +kernel)) (goodIn_sub (fun _ h => List.mem_cons_of_mem _ (List.mem_append_right _ h)) (by decide +kernel))
set_option maxRecDepth 20000 in
theorem gL_rule_X9_rule : GoodIn wsL_rule (wsV RL 47 RX9 yX9_rule wsX9_rule) := goodIn_app (goodIn_of _ (by decide +kernel)) ggL_rule_X9_rule
set_option maxRecDepth 20000 in
theorem ggL_rank_X9_rank : GoodIn wsL_rank wsX9_rank := goodIn_ca (goodIn_r _ [6, 7, 8, 9, 10, 5, 11, 12, 13, 14, 15, 16, 17, 18, 19, 20, 21, 22, 23, 24, 25, 26, 27, 28, 29, 30, 31, 32, 33, 34, 35, 36, 37, 38, 39, 40, 41, 42, 43, 44, 45, 46, 47, 48, 49, 50, 51, 52, 53, 54, 55, 56, 57, 58, 59, 60, 61, 62, 63, 64, 65, 66, 67, 68, 69, 70, 71, 72, 73, 74, 75, 76, 77, 78, 79, 80, 81, 82, 83, 84, 85, 86, 87, 88, 89, 90, 91, 92, 93, 94, 95, 96, 97, 98, 99, 100, 101, 102, 103, 104, 105, 106, 107, 108, 109, 110, 111, 112, 113, 114, 115, 116, 117, 118, 119, 120, 121, 122, 123, 124, 125, 126, 127, 128, 129, 130, 131, 132, 133, 134, 135, 136, 137, 138, 139, 140, 141, 142, 143, 144, 145, 146, 147, 148, 149, 150, 151, 152, 153] (by decide +kernel) (by decide +kernel)) (goodIn_sub (fun _ h => List.mem_cons_of_mem _ (List.mem_append_right _ h)) (by decide +kernel))
set_option maxRecDepth 20000 in
theorem gL_rank_X9_rank : GoodIn wsL_rank (wsV RL 50 RX9 yX9_rank wsX9_rank) := goodIn_app (goodIn_of _ (by decide +kernel)) ggL_rank_X9_rank
set_option maxRecDepth 20000 in
theorem ggL_protest_X9_protest : GoodIn wsL_protest wsX9_protest := goodIn_ca (goodIn_ca (goodIn_r _ [7, 8, 9, 10, 11, 12, 13, 14, 15, 16, 17, 18, 6, 19, 20, 21, 22, 23, 24, 25, 26, 27, 28, 29, 30, 31, 32, 33, 34, 35, 36, 37, 38, 39, 40, 41, 42, 43, 44, 45, 46, 47, 48, 49, 50, 51, 52, 53, 54, 55, 56, 57] (by decide +kernel) (by decide +kernel)) (goodIn_sub (fun _ h => List.mem_cons_of_mem _ (List.mem_append_left _ (List.mem_append_right _ h))) (by decide +kernel))) (goodIn_sub (fun _ h => List.mem_cons_of_mem _ (List.mem_append_right _ h)) (by decide +kernel))
set_option maxRecDepth 20000 in
theorem gL_protest_X9_protest : GoodIn wsL_protest (wsV RL 53 RX9 yX9_protest wsX9_protest) := goodIn_app (goodIn_of _ (by decide +kernel)) ggL_protest_X9_protest
set_option maxRecDepth 20000 in
theorem ggL_points_X9_points : GoodIn wsL_points wsX9_points := goodIn_ca (goodIn_r _ [6, 7, 8, 9, 5, 10, 11, 12, 13, 14, 15, 16, 17, 18, 19, 20, 21, 22, 23, 24, 25, 26, 27, 28, 29, 30, 31, 32, 33, 34, 35, 36, 37, 38, 39, 40] (by decide +kernel) (by decide +kernel)) (goodIn_sub (fun _ h => List.mem_cons_of_mem _ (List.mem_append_right _ h)) (by decide +kernel))
set_option maxRecDepth 20000 in
theorem gL_points_X9_points : GoodIn wsL_points (wsV RL 56 RX9 yX9_points wsX9_points) := goodIn_app (goodIn_of _ (by decide +kernel)) ggL_points_X9_points
set_option maxRecDepth 20000 in
theorem ggL_line_X9_line : GoodIn wsL_line wsX9_line := goodIn_ca (goodIn_ca (goodIn_r _ [7, 8, 9, 10, 11, 12, 13, 14, 15, 16, 17, 18, 6, 19, 20, 21, 22, 23, 24, 25, 26, 27, 28, 29, 30, 31, 32, 33, 34, 35, 36, 37, 38, 39, 40, 41, 42, 43, 44, 45, 46, 47, 48, 49, 50, 51, 52, 53, 54, 55] (by decide +kernel) (by decide +kernel)) (goodIn_sub (fun _ h => List.mem_cons_of_mem _ (List.mem_append_left _ (List.mem_append_right _ h))) (by decide +kernel))) (goodIn_sub (fun _ h => List.mem_cons_of_mem _ (List.mem_append_right _ h)) (by decide +kernel))
set_option maxRecDepth 20000 in
theorem gL_line_X9_line : GoodIn wsL_line (wsV RL 59 RX9 yX9_line wsX9_line) := goodIn_app (goodIn_of _ (by decide +kernel)) ggL_line_X9_line
set_option maxRecDepth 20000 in
theorem ggL_wait_X9_wait : GoodIn wsL_wait wsX9_wait := goodIn_ca (goodIn_r _ [6, 7, 8, 9, 5, 10, 11, 12, 13, 14, 15, 16, 17, 18, 19, 20, 21, 22, 23] (by decide +kernel) (by decide +kernel)) (goodIn_sub (fun _ h => List.mem_cons_of_mem _ (List.mem_append_right _ h)) (by decide +kernel))
set_option maxRecDepth 20000 in
theorem gL_wait_X9_wait : GoodIn wsL_wait (wsV RL 62 RX9 yX9_wait wsX9_wait) := goodIn_app (goodIn_of _ (by decide +kernel)) ggL_wait_X9_wait
set_option maxRecDepth 20000 in
theorem ggL_law_X9_init : GoodIn wsL_law wsX9_init := goodIn_r _ [9, 10, 11, 12, 13, 14, 15, 16, 17, 18, 19, 20, 21, 22, 23, 24, 25, 26, 27, 28, 29, 30, 31, 32, 33, 34, 35, 36, 37, 38, 39, 40, 41, 42, 43, 44, 45, 46, 47, 48, 49, 50, 51, 52, 53, 54, 55, 56, 57, 58, 59, 60, 61, 62, 63, 64, 65, 66, 67, 68, 69, 70, 71, 72, 73, 74, 75, 76, 77, 78, 79, 80, 81, 82, 83, 84, 85, 86, 87, 88, 89, 90, 91, 92, 93, 94, 95, 96, 97, 98, 99, 100, 101, 102, 103, 104, 105, 106, 107, 108, 109, 110, 111, 112, 113, 114, 115, 116, 117, 118, 119, 120, 121, 122, 123, 124, 125, 126, 127, 128, 129, 130, 131, 132, 133, 134, 885, 886, 840, 841, 842, 843, 844, 845, 846, 847, 848, 849, 850, 887, 888, 889, 890, 891, 892, 893, 894, 895, 896, 897, 898, 899, 900, 901, 902, 903, 904, 905, 906, 907, 908, 909, 910, 911, 912, 913, 914, 915, 916, 917, 918, 919, 920, 921, 922, 923, 924, 925] (by decide +kernel) (by decide +kernel)
set_option maxRecDepth 20000 in
theorem gL_law_X9_init : GoodIn wsL_law (wsX9_init) := ggL_law_X9_init
set_option maxRecDepth 20000 in
theorem ggL_law_X10_init : GoodIn wsL_law wsX10_init := goodIn_r _ [137, 138, 11, 12, 49, 139, 140, 141, 142, 143, 144, 145, 146, 147, 148, 149, 150, 151, 152, 153, 100, 154, 155, 156, 157, 158, 159, 160, 161, 162, 851, 852, 853, 854, 855, 856, 857, 858, 859, 860, 861, 862, 863, 864, 865, 866, 867, 868, 869, 870, 871, 872, 873, 874, 875, 876, 877, 878, 879, 880, 881, 882, 883, 884] (by decide +kernel) (by decide +kernel)
set_option maxRecDepth 20000 in
theorem gL_law_X10_init : GoodIn wsL_law (wsX10_init) := ggL_law_X10_init
set_option maxRecDepth 20000 in
theorem ggL_law_L_ploughman : GoodIn wsL_law wsL_ploughman := goodIn_ca (goodIn_ca (goodIn_r _ [166, 167, 168, 169, 170, 171, 2, 172, 173, 174, 20, 175, 176, 177, 178, 179, 180, 181, 182, 183, 184, 185, 19, 186, 66, 187, 188, 189, 190, 65, 191, 192, 193, 194, 60, 61, 62, 840, 841, 842, 843, 844, 845, 846, 847, 848, 849, 850, 887, 888, 889, 890, 891, 892, 893] (by decide +kernel) (by decide +kernel)) (goodIn_sub (fun _ h => List.mem_append_left _ (List.mem_append_left _ (List.mem_append_right _ h))) (by decide +kernel))) (goodIn_sub (fun _ h => List.mem_append_left _ (List.mem_append_right _ h)) (by decide +kernel))
set_option maxRecDepth 20000 in
theorem gL_law_L_ploughman : GoodIn wsL_law (va_wsS RL 69 yL_ploughman wsL_ploughman) := goodIn_app (goodIn_of _ (by decide +kernel)) ggL_law_L_ploughman
set_option maxRecDepth 20000 in
theorem ggL_law_X10_ploughman : GoodIn wsL_law wsX10_ploughman := goodIn_r _ [198, 199, 200, 201, 139, 140, 141, 202, 203, 204, 5, 205, 851, 852, 853, 854, 855, 856, 857, 858, 859, 860, 861, 862, 863, 864, 865, 866, 867, 868, 869, 870, 871, 872, 873, 874, 875, 876, 877, 878, 879, 880, 881, 882, 883, 884] (by decide +kernel) (by decide +kernel)
set_option maxRecDepth 20000 in
theorem gL_law_X10_ploughman : GoodIn wsL_law (wsV RL 74 RX10 yX10_ploughman wsX10_ploughman) := goodIn_app (goodIn_of _ (by decide +kernel)) ggL_law_X10_ploughman
set_option maxRecDepth 20000 in
theorem ggL_law_X10_thrown : GoodIn wsL_law wsX10_thrown := goodIn_r _ [209, 199, 851, 852, 853, 854, 855, 856, 857, 858, 859, 860, 861, 862, 863, 864, 865, 866, 867, 868, 869, 870, 871, 872, 873, 874, 875, 876, 877, 878, 879, 880, 881, 882, 883, 884] (by decide +kernel) (by decide +kernel)
set_option maxRecDepth 20000 in
theorem gL_law_X10_thrown : GoodIn wsL_law (wsV RL 75 RX10 yX10_thrown wsX10_thrown) := goodIn_app (goodIn_of _ (by decide +kernel)) ggL_law_X10_thrown
set_option maxRecDepth 20000 in
theorem ggL_law_X9_noise : GoodIn wsL_law wsX9_noise := goodIn_r _ [213, 16, 214, 215, 216, 15, 217, 56, 55, 840, 841, 842, 843, 844, 845, 846, 847, 848, 849, 850, 885, 886] (by decide +kernel) (by decide +kernel)
set_option maxRecDepth 20000 in
theorem gL_law_X9_noise : GoodIn wsL_law (wsV RL 78 RX9 yX9_noise wsX9_noise) := goodIn_app (goodIn_of _ (by decide +kernel)) ggL_law_X9_noise
set_option maxRecDepth 20000 in
theorem ggL_law_X10_noise : GoodIn wsL_law wsX10_noise := goodIn_r _ [221, 199, 222, 142, 851, 852, 853, 854, 855, 856, 857, 858, 859, 860, 861, 862, 863, 864, 865, 866, 867, 868, 869, 870, 871, 872, 873, 874, 875, 876, 877, 878, 879, 880, 881, 882, 883, 884] (by decide +kernel) (by decide +kernel)
set_option maxRecDepth 20000 in
theorem gL_law_X10_noise : GoodIn wsL_law (wsV RL 81 RX10 yX10_noise wsX10_noise) := goodIn_app (goodIn_of _ (by decide +kernel)) ggL_law_X10_noise
set_option maxRecDepth 20000 in
theorem ggL_law_L_draw : GoodIn wsL_law wsL_draw := goodIn_ca (goodIn_r _ [225, 168, 226, 227, 228, 2, 229, 173, 174, 20, 16, 24, 183, 184, 185, 19, 186, 66, 230, 231, 232, 233, 65, 234, 235, 236, 15, 237, 56, 238, 239, 240, 241, 63, 64, 242, 243, 244, 245, 55, 246, 176, 177, 247, 248, 249, 250, 251, 252, 253, 23, 254, 76, 840, 841, 842, 843, 844, 845, 846, 847, 848, 849, 850, 887, 888, 889, 890, 891, 892, 893, 885, 886, 894, 895, 896, 897, 898, 899, 900] (by decide +kernel) (by decide +kernel)) (goodIn_sub (fun _ h => List.mem_append_left _ (List.mem_append_left _ (List.mem_append_right _ h))) (by decide +kernel))
set_option maxRecDepth 20000 in
theorem gL_law_L_draw : GoodIn wsL_law (va_wsS RL 82 yL_draw wsL_draw) := goodIn_app (goodIn_of _ (by decide +kernel)) ggL_law_L_draw
set_option maxRecDepth 20000 in
theorem ggL_law_X10_draw : GoodIn wsL_law wsX10_draw := goodIn_r _ [258, 199, 201, 222, 200, 259, 143, 142, 260, 202, 203, 204, 5, 205, 851, 852, 853, 854, 855, 856, 857, 858, 859, 860, 861, 862, 863, 864, 865, 866, 867, 868, 869, 870, 871, 872, 873, 874, 875, 876, 877, 878, 879, 880, 881, 882, 883, 884] (by decide +kernel) (by decide +kernel)
set_option maxRecDepth 20000 in
theorem gL_law_X10_draw : GoodIn wsL_law (wsV RL 85 RX10 yX10_draw wsX10_draw) := goodIn_app (goodIn_of _ (by decide +kernel)) ggL_law_X10_draw
set_option maxRecDepth 20000 in
theorem ggL_law_L_plot : GoodIn wsL_law wsL_plot := goodIn_ca (goodIn_r _ [263, 264, 265, 266, 267, 2, 268, 20, 230, 231, 232, 19, 233, 65, 269, 270, 271, 272, 273, 175, 176, 177, 183, 184, 185, 186, 66, 274, 275, 276, 277, 63, 840, 841, 842, 843, 844, 845, 846, 847, 848, 849, 850, 887, 888, 889, 890, 891, 892, 893] (by decide +kernel) (by decide +kernel)) (goodIn_sub (fun _ h => List.mem_append_right _ h) (by decide +kernel))
set_option maxRecDepth 20000 in
theorem gL_law_L_plot : GoodIn wsL_law (va_wsS RL 86 yL_plot wsL_plot) := goodIn_app (goodIn_of _ (by decide +kernel)) ggL_law_L_plot
set_option maxRecDepth 20000 in
theorem ggL_law_X10_plot : GoodIn wsL_law wsX10_plot := goodIn_r _ [281, 201, 143, 282, 283, 284, 5, 285, 200, 199, 851, 852, 853, 854, 855, 856, 857, 858, 859, 860, 861, 862, 863, 864, 865, 866, 867, 868, 869, 870, 871, 872, 873, 874, 875, 876, 877, 878, 879, 880, 881, 882, 883, 884] (by decide +kernel) (by decide +kernel)
set_option maxRecDepth 20000 in
theorem gL_law_X10_plot : GoodIn wsL_law (wsV RL 89 RX10 yX10_plot wsX10_plot) := goodIn_app (goodIn_of _ (by decide +kernel)) ggL_law_X10_plot
set_option maxRecDepth 20000 in
theorem ggL_law_L_mark : GoodIn wsL_law wsL_mark := goodIn_ca (goodIn_ca (goodIn_r _ [288, 264, 167, 289, 290, 291, 2, 292, 20, 24, 293, 294, 295, 19, 296, 66, 65, 269, 270, 271, 272, 273, 175, 176, 177, 178, 179, 180, 181, 182, 297, 298, 299, 23, 300, 71, 77, 301, 302, 303, 304, 305, 306, 307, 72, 76, 73, 308, 309, 310, 311, 312, 313, 314, 315, 316, 317, 318, 319, 78, 320, 321, 322, 323, 324, 325, 326, 327, 74, 328, 329, 330, 331, 332, 333, 334, 335, 75, 336, 337, 338, 339, 840, 841, 842, 843, 844, 845, 846, 847, 848, 849, 850, 887, 888, 889, 890, 891, 892, 893, 894, 895, 896, 897, 898, 899, 900] (by decide +kernel) (by decide +kernel)) (goodIn_sub (fun _ h => List.mem_append_right _ h) (by decide +kernel))) (goodIn_sub (fun _ h => List.mem_append_left _ (List.mem_append_right _ h)) (by decide +kernel))
set_option maxRecDepth 20000 in
theorem gL_law_L_mark : GoodIn wsL_law (va_wsS RL 90 yL_mark wsL_mark) := goodIn_app (goodIn_of _ (by decide +kernel)) ggL_law_L_mark
set_option maxRecDepth 20000 in
theorem ggL_law_X10_mark : GoodIn wsL_law wsX10_mark := goodIn_r _ [343, 144, 259, 344, 345, 346, 5, 347, 201, 199, 348, 349, 350, 202, 203, 204, 205, 351, 352, 353, 354, 851, 852, 853, 854, 855, 856, 857, 858, 859, 860, 861, 862, 863, 864, 865, 866, 867, 868, 869, 870, 871, 872, 873, 874, 875, 876, 877, 878, 879, 880, 881, 882, 883, 884] (by decide +kernel) (by decide +kernel)
set_option maxRecDepth 20000 in
theorem gL_law_X10_mark : GoodIn wsL_law (wsV RL 93 RX10 yX10_mark wsX10_mark) := goodIn_app (goodIn_of _ (by decide +kernel)) ggL_law_X10_mark
set_option maxRecDepth 20000 in
theorem ggL_law_L_hard : GoodIn wsL_law wsL_hard := goodIn_ca (goodIn_r _ [357, 167, 358, 359, 360, 2, 361, 24, 175, 176, 177, 178, 179, 180, 181, 182, 362, 321, 322, 23, 323, 72, 840, 841, 842, 843, 844, 845, 846, 847, 848, 849, 850, 894, 895, 896, 897, 898, 899, 900] (by decide +kernel) (by decide +kernel)) (goodIn_sub (fun _ h => List.mem_append_left _ (List.mem_append_right _ h)) (by decide +kernel))
set_option maxRecDepth 20000 in
theorem gL_law_L_hard : GoodIn wsL_law (va_wsS RL 94 yL_hard wsL_hard) := goodIn_app (goodIn_of _ (by decide +kernel)) ggL_law_L_hard
set_option maxRecDepth 20000 in
theorem ggL_law_X10_hard : GoodIn wsL_law wsX10_hard := goodIn_r _ [366, 199, 348, 349, 5, 350, 202, 203, 204, 205, 367, 368, 369, 370, 201, 351, 352, 353, 354, 144, 371, 372, 373, 851, 852, 853, 854, 855, 856, 857, 858, 859, 860, 861, 862, 863, 864, 865, 866, 867, 868, 869, 870, 871, 872, 873, 874, 875, 876, 877, 878, 879, 880, 881, 882, 883, 884] (by decide +kernel) (by decide +kernel)
set_option maxRecDepth 20000 in
theorem gL_law_X10_hard : GoodIn wsL_law (wsV RL 97 RX10 yX10_hard wsX10_hard) := goodIn_app (goodIn_of _ (by decide +kernel)) ggL_law_X10_hard
set_option maxRecDepth 20000 in
theorem ggL_law_L_told : GoodIn wsL_law wsL_told := goodIn_ca (goodIn_ca (goodIn_r _ [376, 264, 167, 377, 378, 379, 2, 380, 20, 24, 293, 294, 295, 19, 296, 66, 65, 269, 270, 271, 272, 273, 175, 176, 177, 178, 179, 180, 181, 182, 381, 329, 330, 23, 331, 73, 840, 841, 842, 843, 844, 845, 846, 847, 848, 849, 850, 887, 888, 889, 890, 891, 892, 893, 894, 895, 896, 897, 898, 899, 900] (by decide +kernel) (by decide +kernel)) (goodIn_sub (fun _ h => List.mem_append_right _ h) (by decide +kernel))) (goodIn_sub (fun _ h => List.mem_append_left _ (List.mem_append_right _ h)) (by decide +kernel))
set_option maxRecDepth 20000 in
theorem gL_law_L_told : GoodIn wsL_law (va_wsS RL 98 yL_told wsL_told) := goodIn_app (goodIn_of _ (by decide +kernel)) ggL_law_L_told
set_option maxRecDepth 20000 in
theorem ggL_law_X10_told : GoodIn wsL_law wsX10_told := goodIn_r _ [385, 344, 345, 346, 5, 347, 201, 199, 348, 349, 350, 202, 203, 204, 205, 386, 387, 388, 389, 146, 390, 391, 392, 393, 259, 145, 147, 394, 367, 368, 369, 370, 351, 352, 353, 354, 144, 371, 372, 373, 395, 396, 397, 398, 851, 852, 853, 854, 855, 856, 857, 858, 859, 860, 861, 862, 863, 864, 865, 866, 867, 868, 869, 870, 871, 872, 873, 874, 875, 876, 877, 878, 879, 880, 881, 882, 883, 884] (by decide +kernel) (by decide +kernel)
set_option maxRecDepth 20000 in
theorem gL_law_X10_told : GoodIn wsL_law (wsV RL 100 RX10 yX10_told wsX10_told) := goodIn_app (goodIn_of _ (by decide +kernel)) ggL_law_X10_told
set_option maxRecDepth 20000 in
theorem ggL_law_L_about : GoodIn wsL_law wsL_about := goodIn_ca (goodIn_ca (goodIn_r _ [401, 264, 167, 402, 403, 404, 2, 405, 181, 182, 20, 24, 28, 293, 294, 295, 19, 296, 66, 65, 269, 270, 271, 272, 273, 175, 176, 177, 406, 407, 408, 23, 409, 74, 410, 411, 412, 413, 78, 328, 329, 330, 331, 73, 414, 415, 416, 417, 75, 418, 419, 420, 27, 421, 87, 422, 423, 424, 425, 88, 426, 427, 428, 429, 90, 430, 431, 432, 433, 434, 435, 89, 436, 437, 438, 439, 64, 840, 841, 842, 843, 844, 845, 846, 847, 848, 849, 850, 887, 888, 889, 890, 891, 892, 893, 894, 895, 896, 897, 898, 899, 900, 901, 902, 903, 904] (by decide +kernel) (by decide +kernel)) (goodIn_sub (fun _ h => List.mem_append_left _ (List.mem_append_right _ h)) (by decide +kernel))) (goodIn_sub (fun _ h => List.mem_append_right _ h) (by decide +kernel))
set_option maxRecDepth 20000 in
theorem gL_law_L_about : GoodIn wsL_law (va_wsS RL 101 yL_about wsL_about) := goodIn_app (goodIn_of _ (by decide +kernel)) ggL_law_L_about
set_option maxRecDepth 20000 in
theorem ggL_law_X10_about : GoodIn wsL_law wsX10_about := goodIn_r _ [443, 394, 148, 149, 143, 344, 345, 346, 5, 347, 201, 199, 202, 203, 204, 205, 444, 445, 446, 447, 147, 390, 391, 392, 393, 259, 145, 146, 367, 368, 369, 370, 351, 352, 353, 354, 144, 371, 372, 373, 395, 396, 397, 398, 386, 387, 388, 389, 448, 449, 450, 451, 452, 453, 454, 455, 150, 851, 852, 853, 854, 855, 856, 857, 858, 859, 860, 861, 862, 863, 864, 865, 866, 867, 868, 869, 870, 871, 872, 873, 874, 875, 876, 877, 878, 879, 880, 881, 882, 883, 884] (by decide +kernel) (by decide +kernel)
set_option maxRecDepth 20000 in
theorem gL_law_X10_about : GoodIn wsL_law (wsV RL 103 RX10 yX10_about wsX10_about) := goodIn_app (goodIn_of _ (by decide +kernel)) ggL_law_X10_about
set_option maxRecDepth 20000 in
theorem ggL_law_L_minutes : GoodIn wsL_law wsL_minutes := goodIn_ca (goodIn_ca (goodIn_r _ [458, 264, 167, 459, 460, 461, 2, 462, 20, 28, 293, 294, 295, 19, 296, 66, 65, 269, 270, 271, 272, 273, 175, 176, 177, 178, 179, 180, 181, 182, 463, 464, 465, 27, 466, 87, 840, 841, 842, 843, 844, 845, 846, 847, 848, 849, 850, 887, 888, 889, 890, 891, 892, 893, 901, 902, 903, 904] (by decide +kernel) (by decide +kernel)) (goodIn_sub (fun _ h => List.mem_append_right _ h) (by decide +kernel))) (goodIn_sub (fun _ h => List.mem_append_left _ (List.mem_append_right _ h)) (by decide +kernel))
set_option maxRecDepth 20000 in
theorem gL_law_L_minutes : GoodIn wsL_law (va_wsS RL 104 yL_minutes wsL_minutes) := goodIn_app (goodIn_of _ (by decide +kernel)) ggL_law_L_minutes
set_option maxRecDepth 20000 in
theorem ggL_law_X10_minutes : GoodIn wsL_law wsX10_minutes := goodIn_r _ [470, 148, 344, 345, 346, 5, 347, 201, 199, 471, 472, 473, 202, 203, 204, 205, 851, 852, 853, 854, 855, 856, 857, 858, 859, 860, 861, 862, 863, 864, 865, 866, 867, 868, 869, 870, 871, 872, 873, 874, 875, 876, 877, 878, 879, 880, 881, 882, 883, 884] (by decide +kernel) (by decide +kernel)
set_option maxRecDepth 20000 in
theorem gL_law_X10_minutes : GoodIn wsL_law (wsV RL 106 RX10 yX10_minutes wsX10_minutes) := goodIn_app (goodIn_of _ (by decide +kernel)) ggL_law_X10_minutes
set_option maxRecDepth 20000 in
theorem ggL_law_L_limit : GoodIn wsL_law wsL_limit := goodIn_ca (goodIn_r _ [476, 167, 477, 478, 479, 2, 480, 28, 178, 179, 180, 181, 182, 481, 482, 483, 27, 484, 89, 840, 841, 842, 843, 844, 845, 846, 847, 848, 849, 850, 901, 902, 903, 904] (by decide +kernel) (by decide +kernel)) (goodIn_sub (fun _ h => List.mem_append_left _ (List.mem_append_right _ h)) (by decide +kernel))
set_option maxRecDepth 20000 in
theorem gL_law_L_limit : GoodIn wsL_law (va_wsS RL 107 yL_limit wsL_limit) := goodIn_app (goodIn_of _ (by decide +kernel)) ggL_law_L_limit
set_option maxRecDepth 20000 in
theorem ggL_law_X10_limit : GoodIn wsL_law wsX10_limit := goodIn_r _ [488, 199, 150, 471, 472, 5, 473, 202, 203, 204, 205, 851, 852, 853, 854, 855, 856, 857, 858, 859, 860, 861, 862, 863, 864, 865, 866, 867, 868, 869, 870, 871, 872, 873, 874, 875, 876, 877, 878, 879, 880, 881, 882, 883, 884] (by decide +kernel) (by decide +kernel)
set_option maxRecDepth 20000 in
theorem gL_law_X10_limit : GoodIn wsL_law (wsV RL 109 RX10 yX10_limit wsX10_limit) := goodIn_app (goodIn_of _ (by decide +kernel)) ggL_law_X10_limit
set_option maxRecDepth 20000 in
theorem ggL_law_X9_feed : GoodIn wsL_law wsX9_feed := goodIn_r _ [492, 32, 493, 494, 495, 31, 496, 95, 497, 498, 499, 500, 94, 501, 502, 503, 504, 840, 841, 842, 843, 844, 845, 846, 847, 848, 849, 850, 905, 906] (by decide +kernel) (by decide +kernel)
set_option maxRecDepth 20000 in
theorem gL_law_X9_feed : GoodIn wsL_law (wsV RL 110 RX9 yX9_feed wsX9_feed) := goodIn_app (goodIn_of _ (by decide +kernel)) ggL_law_X9_feed
set_option maxRecDepth 20000 in
theorem ggL_law_X10_feed : GoodIn wsL_law wsX10_feed := goodIn_r _ [508, 199, 509, 152, 851, 852, 853, 854, 855, 856, 857, 858, 859, 860, 861, 862, 863, 864, 865, 866, 867, 868, 869, 870, 871, 872, 873, 874, 875, 876, 877, 878, 879, 880, 881, 882, 883, 884] (by decide +kernel) (by decide +kernel)
set_option maxRecDepth 20000 in
theorem gL_law_X10_feed : GoodIn wsL_law (wsV RL 114 RX10 yX10_feed wsX10_feed) := goodIn_app (goodIn_of _ (by decide +kernel)) ggL_law_X10_feed
set_option maxRecDepth 20000 in
theorem ggL_law_L_rule : GoodIn wsL_law wsL_rule := goodIn_ca (goodIn_r _ [512, 167, 513, 514, 515, 2, 516, 32, 40, 36, 501, 502, 503, 31, 504, 95, 178, 179, 180, 181, 182, 517, 518, 519, 520, 521, 522, 523, 39, 524, 112, 109, 110, 108, 525, 526, 527, 528, 35, 529, 102, 530, 531, 532, 533, 111, 534, 535, 536, 537, 538, 539, 540, 541, 542, 543, 544, 545, 546, 547, 548, 549, 94, 550, 551, 552, 553, 554, 555, 556, 557, 558, 559, 560, 561, 562, 563, 564, 565, 566, 567, 568, 569, 570, 571, 572, 573, 574, 575, 576, 577, 578, 579, 580, 581, 582, 583, 584, 585, 586, 587, 588, 589, 590, 591, 592, 593, 594, 595, 596, 597, 598, 599, 600, 601, 602, 603, 604, 605, 606, 607, 132, 133, 134, 99, 101, 608, 609, 610, 611, 612, 613, 614, 615, 616, 617, 618, 619, 620, 621, 622, 623, 624, 625, 840, 841, 842, 843, 844, 845, 846, 847, 848, 849, 850, 905, 906, 910, 911, 912, 913, 914, 907, 908, 909] (by decide +kernel) (by decide +kernel)) (goodIn_sub (fun _ h => List.mem_append_left _ (List.mem_append_right _ h)) (by decide +kernel))
set_option maxRecDepth 20000 in
theorem gL_law_L_rule : GoodIn wsL_law (va_wsS RL 115 yL_rule wsL_rule) := goodIn_app (goodIn_of _ (by decide +kernel)) ggL_law_L_rule
set_option maxRecDepth 20000 in
theorem ggL_law_X10_rule : GoodIn wsL_law wsX10_rule := goodIn_r _ [629, 199, 509, 630, 631, 632, 153, 155, 154, 156, 162, 202, 203, 204, 5, 205, 633, 634, 635, 636, 637, 638, 639, 640, 641, 642, 643, 644, 645, 646, 647, 648, 152, 649, 555, 556, 557, 558, 559, 560, 561, 562, 563, 564, 565, 650, 567, 568, 569, 570, 571, 572, 573, 574, 575, 576, 577, 578, 579, 580, 581, 582, 583, 584, 585, 586, 587, 588, 589, 590, 591, 592, 593, 594, 595, 596, 597, 598, 599, 600, 601, 602, 851, 852, 853, 854, 855, 856, 857, 858, 859, 860, 861, 862, 863, 864, 865, 866, 867, 868, 869, 870, 871, 872, 873, 874, 875, 876, 877, 878, 879, 880, 881, 882, 883, 884] (by decide +kernel) (by decide +kernel)
set_option maxRecDepth 20000 in
theorem gL_law_X10_rule : GoodIn wsL_law (wsV RL 117 RX10 yX10_rule wsX10_rule) := goodIn_app (goodIn_of _ (by decide +kernel)) ggL_law_X10_rule
set_option maxRecDepth 20000 in
theorem ggL_law_L_rank : GoodIn wsL_law wsL_rank := goodIn_ca (goodIn_r _ [653, 167, 654, 655, 656, 2, 657, 20, 44, 175, 176, 177, 178, 179, 180, 181, 182, 183, 184, 185, 19, 186, 66, 658, 659, 660, 43, 661, 118, 119, 117, 662, 231, 232, 233, 65, 663, 664, 665, 666, 60, 667, 668, 669, 670, 122, 671, 623, 624, 35, 625, 102, 672, 673, 674, 675, 99, 676, 677, 678, 679, 121, 120, 680, 275, 276, 277, 63, 681, 427, 428, 27, 429, 90, 88, 430, 407, 408, 23, 409, 74, 431, 415, 416, 417, 75, 432, 433, 434, 435, 87, 89, 682, 683, 419, 420, 421, 684, 685, 686, 687, 61, 688, 329, 330, 331, 73, 689, 690, 691, 692, 101, 693, 694, 695, 696, 840, 841, 842, 843, 844, 845, 846, 847, 848, 849, 850, 887, 888, 889, 890, 891, 892, 893, 915, 916, 917, 918, 919, 920, 907, 908, 909, 901, 902, 903, 904, 894, 895, 896, 897, 898, 899, 900] (by decide +kernel) (by decide +kernel)) (goodIn_sub (fun _ h => List.mem_append_left _ (List.mem_append_right _ h)) (by decide +kernel))
set_option maxRecDepth 20000 in
theorem gL_law_L_rank : GoodIn wsL_law (va_wsS RL 118 yL_rank wsL_rank) := goodIn_app (goodIn_of _ (by decide +kernel)) ggL_law_L_rank
set_option maxRecDepth 20000 in
theorem ggL_law_X10_rank : GoodIn wsL_law wsX10_rank := goodIn_r _ [700, 199, 201, 202, 203, 204, 5, 205, 701, 702, 703, 704, 200, 162, 157, 153, 705, 706, 707, 708, 143, 148, 140, 452, 453, 454, 455, 150, 149, 444, 445, 446, 447, 147, 390, 391, 392, 393, 259, 145, 146, 394, 367, 368, 369, 370, 351, 352, 353, 354, 144, 371, 372, 373, 395, 396, 397, 398, 448, 449, 450, 451, 386, 387, 388, 389, 709, 710, 711, 712, 139, 713, 714, 715, 716, 154, 851, 852, 853, 854, 855, 856, 857, 858, 859, 860, 861, 862, 863, 864, 865, 866, 867, 868, 869, 870, 871, 872, 873, 874, 875, 876, 877, 878, 879, 880, 881, 882, 883, 884] (by decide +kernel) (by decide +kernel)
set_option maxRecDepth 20000 in
theorem gL_law_X10_rank : GoodIn wsL_law (wsV RL 120 RX10 yX10_rank wsX10_rank) := goodIn_app (goodIn_of _ (by decide +kernel)) ggL_law_X10_rank
set_option maxRecDepth 20000 in
theorem ggL_law_L_protest : GoodIn wsL_law wsL_protest := goodIn_ca (goodIn_ca (goodIn_r _ [719, 264, 167, 720, 721, 722, 2, 723, 20, 28, 293, 294, 295, 19, 296, 66, 65, 269, 270, 271, 272, 273, 175, 176, 177, 178, 179, 180, 181, 182, 724, 725, 726, 27, 727, 88, 840, 841, 842, 843, 844, 845, 846, 847, 848, 849, 850, 887, 888, 889, 890, 891, 892, 893, 901, 902, 903, 904] (by decide +kernel) (by decide +kernel)) (goodIn_sub (fun _ h => List.mem_append_right _ h) (by decide +kernel))) (goodIn_sub (fun _ h => List.mem_append_left _ (List.mem_append_right _ h)) (by decide +kernel))
set_option maxRecDepth 20000 in
theorem gL_law_L_protest : GoodIn wsL_law (va_wsS RL 121 yL_protest wsL_protest) := goodIn_app (goodIn_of _ (by decide +kernel)) ggL_law_L_protest
set_option maxRecDepth 20000 in
theorem ggL_law_X10_protest : GoodIn wsL_law wsX10_protest := goodIn_r _ [731, 149, 344, 345, 346, 5, 347, 201, 199, 202, 203, 204, 205, 851, 852, 853, 854, 855, 856, 857, 858, 859, 860, 861, 862, 863, 864, 865, 866, 867, 868, 869, 870, 871, 872, 873, 874, 875, 876, 877, 878, 879, 880, 881, 882, 883, 884] (by decide +kernel) (by decide +kernel)
set_option maxRecDepth 20000 in
theorem gL_law_X10_protest : GoodIn wsL_law (wsV RL 123 RX10 yX10_protest wsX10_protest) := goodIn_app (goodIn_of _ (by decide +kernel)) ggL_law_X10_protest
set_option maxRecDepth 20000 in
theorem ggL_law_X9_publish : GoodIn wsL_law wsX9_publish := goodIn_r _ [735, 20, 50, 48, 51, 183, 184, 185, 19, 186, 66, 736, 80, 81, 82, 737, 738, 739, 2, 740, 44, 741, 742, 743, 744, 745, 658, 659, 660, 43, 661, 118, 119, 117, 662, 231, 232, 233, 65, 663, 664, 665, 666, 60, 667, 668, 669, 670, 122, 671, 623, 624, 35, 625, 102, 672, 673, 674, 675, 99, 676, 677, 678, 679, 121, 120, 680, 275, 276, 277, 63, 681, 427, 428, 27, 429, 90, 88, 430, 407, 408, 23, 409, 74, 431, 415, 416, 417, 75, 432, 433, 434, 435, 87, 89, 682, 683, 419, 420, 421, 684, 685, 686, 687, 61, 688, 329, 330, 331, 73, 689, 690, 691, 692, 101, 746, 747, 748, 749, 693, 694, 695, 696, 176, 177, 750, 751, 752, 753, 62, 754, 755, 756, 47, 757, 130, 129, 126, 127, 128, 758, 759, 760, 761, 840, 841, 842, 843, 844, 845, 846, 847, 848, 849, 850, 887, 888, 889, 890, 891, 892, 893, 915, 916, 917, 918, 919, 920, 907, 908, 909, 901, 902, 903, 904, 894, 895, 896, 897, 898, 899, 900, 921, 922, 923, 924, 925] (by decide +kernel) (by decide +kernel)
set_option maxRecDepth 20000 in
theorem gL_law_X9_publish : GoodIn wsL_law (wsV RL 124 RX9 yX9_publish wsX9_publish) := goodIn_app (goodIn_of _ (by decide +kernel)) ggL_law_X9_publish
set_option maxRecDepth 20000 in
theorem ggL_law_X10_publish : GoodIn wsL_law wsX10_publish := goodIn_r _ [765, 199, 201, 161, 141, 766, 767, 158, 159, 160, 701, 702, 703, 5, 704, 200, 162, 157, 153, 705, 706, 707, 708, 143, 148, 140, 452, 453, 454, 455, 150, 149, 444, 445, 446, 447, 147, 390, 391, 392, 393, 259, 145, 146, 394, 367, 368, 369, 370, 351, 352, 353, 354, 144, 371, 372, 373, 395, 396, 397, 398, 448, 449, 450, 451, 386, 387, 388, 389, 709, 710, 711, 712, 139, 713, 714, 715, 716, 154, 768, 769, 770, 771, 772, 773, 774, 851, 852, 853, 854, 855, 856, 857, 858, 859, 860, 861, 862, 863, 864, 865, 866, 867, 868, 869, 870, 871, 872, 873, 874, 875, 876, 877, 878, 879, 880, 881, 882, 883, 884] (by decide +kernel) (by decide +kernel)
set_option maxRecDepth 20000 in
theorem gL_law_X10_publish : GoodIn wsL_law (wsV RL 127 RX10 yX10_publish wsX10_publish) := goodIn_app (goodIn_of _ (by decide +kernel)) ggL_law_X10_publish
set_option maxRecDepth 20000 in
theorem ggL_law_L_points : GoodIn wsL_law wsL_points := goodIn_ca (goodIn_r _ [777, 167, 778, 779, 780, 2, 781, 48, 175, 176, 177, 178, 179, 180, 181, 182, 782, 783, 784, 47, 785, 130, 127, 126, 128, 840, 841, 842, 843, 844, 845, 846, 847, 848, 849, 850, 921, 922, 923, 924, 925] (by decide +kernel) (by decide +kernel)) (goodIn_sub (fun _ h => List.mem_append_left _ (List.mem_append_right _ h)) (by decide +kernel))
set_option maxRecDepth 20000 in
theorem gL_law_L_points : GoodIn wsL_law (va_wsS RL 128 yL_points wsL_points) := goodIn_app (goodIn_of _ (by decide +kernel)) ggL_law_L_points
set_option maxRecDepth 20000 in
theorem ggL_law_X10_points : GoodIn wsL_law wsX10_points := goodIn_r _ [789, 199, 202, 203, 204, 5, 205, 771, 772, 773, 774, 767, 159, 158, 160, 851, 852, 853, 854, 855, 856, 857, 858, 859, 860, 861, 862, 863, 864, 865, 866, 867, 868, 869, 870, 871, 872, 873, 874, 875, 876, 877, 878, 879, 880, 881, 882, 883, 884] (by decide +kernel) (by decide +kernel)
set_option maxRecDepth 20000 in
theorem gL_law_X10_points : GoodIn wsL_law (wsV RL 130 RX10 yX10_points wsX10_points) := goodIn_app (goodIn_of _ (by decide +kernel)) ggL_law_X10_points
set_option maxRecDepth 20000 in
theorem ggL_law_L_line : GoodIn wsL_law wsL_line := goodIn_ca (goodIn_ca (goodIn_r _ [792, 264, 167, 793, 794, 795, 2, 796, 181, 182, 48, 797, 798, 799, 47, 800, 130, 269, 270, 271, 272, 273, 175, 176, 177, 801, 802, 803, 804, 126, 805, 806, 807, 808, 127, 809, 810, 811, 812, 128, 840, 841, 842, 843, 844, 845, 846, 847, 848, 849, 850, 921, 922, 923, 924, 925] (by decide +kernel) (by decide +kernel)) (goodIn_sub (fun _ h => List.mem_append_left _ (List.mem_append_right _ h)) (by decide +kernel))) (goodIn_sub (fun _ h => List.mem_append_right _ h) (by decide +kernel))
set_option maxRecDepth 20000 in
theorem gL_law_L_line : GoodIn wsL_law (va_wsS RL 131 yL_line wsL_line) := goodIn_app (goodIn_of _ (by decide +kernel)) ggL_law_L_line
set_option maxRecDepth 20000 in
theorem ggL_law_X10_line : GoodIn wsL_law wsX10_line := goodIn_r _ [816, 199, 767, 158, 159, 160, 202, 203, 204, 5, 205, 851, 852, 853, 854, 855, 856, 857, 858, 859, 860, 861, 862, 863, 864, 865, 866, 867, 868, 869, 870, 871, 872, 873, 874, 875, 876, 877, 878, 879, 880, 881, 882, 883, 884] (by decide +kernel) (by decide +kernel)
set_option maxRecDepth 20000 in
theorem gL_law_X10_line : GoodIn wsL_law (wsV RL 133 RX10 yX10_line wsX10_line) := goodIn_app (goodIn_of _ (by decide +kernel)) ggL_law_X10_line
set_option maxRecDepth 20000 in
theorem ggL_law_L_wait : GoodIn wsL_law wsL_wait := goodIn_ca (goodIn_r _ [819, 167, 820, 821, 822, 2, 823, 51, 178, 179, 180, 181, 182, 840, 841, 842, 843, 844, 845, 846, 847, 848, 849, 850] (by decide +kernel) (by decide +kernel)) (goodIn_sub (fun _ h => List.mem_append_left _ (List.mem_append_right _ h)) (by decide +kernel))
set_option maxRecDepth 20000 in
theorem gL_law_L_wait : GoodIn wsL_law (va_wsS RL 134 yL_wait wsL_wait) := goodIn_app (goodIn_of _ (by decide +kernel)) ggL_law_L_wait
set_option maxRecDepth 20000 in
theorem ggL_law_X10_wait : GoodIn wsL_law wsX10_wait := goodIn_r _ [827, 199, 766, 202, 203, 204, 5, 205, 851, 852, 853, 854, 855, 856, 857, 858, 859, 860, 861, 862, 863, 864, 865, 866, 867, 868, 869, 870, 871, 872, 873, 874, 875, 876, 877, 878, 879, 880, 881, 882, 883, 884] (by decide +kernel) (by decide +kernel)
set_option maxRecDepth 20000 in
theorem gL_law_X10_wait : GoodIn wsL_law (wsV RL 136 RX10 yX10_wait wsX10_wait) := goodIn_app (goodIn_of _ (by decide +kernel)) ggL_law_X10_wait
set_option maxRecDepth 20000 in
theorem ggL_law_X9_count : GoodIn wsL_law wsX9_count := goodIn_r _ [831, 20, 24, 36, 48, 51, 16, 32, 230, 231, 232, 19, 233, 65, 293, 294, 295, 296, 66, 832, 833, 834, 23, 835, 77, 622, 623, 624, 35, 625, 102, 797, 798, 799, 47, 800, 130, 234, 235, 236, 15, 237, 56, 501, 502, 503, 31, 504, 95, 840, 841, 842, 843, 844, 845, 846, 847, 848, 849, 850, 887, 888, 889, 890, 891, 892, 893, 894, 895, 896, 897, 898, 899, 900, 907, 908, 909, 921, 922, 923, 924, 925, 885, 886, 905, 906] (by decide +kernel) (by decide +kernel)
set_option maxRecDepth 20000 in
theorem gL_law_X9_count : GoodIn wsL_law (wsV RL 137 RX9 yX9_count wsX9_count) := goodIn_app (goodIn_of _ (by decide +kernel)) ggL_law_X9_count
set_option maxRecDepth 20000 in
theorem ggL_law_X10_count : GoodIn wsL_law wsX10_count := goodIn_r _ [839, 199, 200, 201, 144, 162, 767, 766, 222, 509, 851, 852, 853, 854, 855, 856, 857, 858, 859, 860, 861, 862, 863, 864, 865, 866, 867, 868, 869, 870, 871, 872, 873, 874, 875, 876, 877, 878, 879, 880, 881, 882, 883, 884] (by decide +kernel) (by decide +kernel)
set_option maxRecDepth 20000 in
theorem gL_law_X10_count : GoodIn wsL_law (wsV RL 140 RX10 yX10_count wsX10_count) := goodIn_app (goodIn_of _ (by decide +kernel)) ggL_law_X10_count
