set_option maxRecDepth 20000 in
theorem ggX0_degreeOf_J13_bitCount_95d88 : GoodIn wsX0_degreeOf wsJ13_bitCount_95d88 := goodIn_r _ [4, 5, 6, 7] (by eq_refl) gw_wsJ13_bitCount_95d88
set_option maxRecDepth 20000 in
theorem gX0_degreeOf_J13_bitCount_95d88 : GoodIn wsX0_degreeOf (va_wsS RX0 9 yJ13_bitCount_95d88 wsJ13_bitCount_95d88) := goodIn_app (goodIn_r _ [1, 2, 3] (by eq_refl) (by decide +kernel)) ggX0_degreeOf_J13_bitCount_95d88
set_option maxRecDepth 20000 in
theorem ggX0_onesOf_J13_bitCount_95d88 : GoodIn wsX0_onesOf wsJ13_bitCount_95d88 := goodIn_r _ [4, 5, 6, 7] (by eq_refl) gw_wsJ13_bitCount_95d88
set_option maxRecDepth 20000 in
theorem gX0_onesOf_J13_bitCount_95d88 : GoodIn wsX0_onesOf (va_wsS RX0 9 yJ13_bitCount_95d88 wsJ13_bitCount_95d88) := goodIn_app (goodIn_r _ [1, 2, 3] (by eq_refl) (by decide +kernel)) ggX0_onesOf_J13_bitCount_95d88
set_option maxRecDepth 20000 in
theorem ggX0_lowestOf_X0_degreeOf : GoodIn wsX0_lowestOf wsX0_degreeOf := goodIn_r _ [4, 5, 6, 7, 8, 9, 10, 11] (by eq_refl) gw_wsX0_degreeOf
set_option maxRecDepth 20000 in
theorem gX0_lowestOf_X0_degreeOf : GoodIn wsX0_lowestOf (va_wsS RX0 15 yX0_degreeOf wsX0_degreeOf) := goodIn_app (goodIn_r _ [1, 2, 3] (by eq_refl) (by decide +kernel)) ggX0_lowestOf_X0_degreeOf
set_option maxRecDepth 20000 in
theorem ggX0_turned_X0_degreeOf : GoodIn wsX0_turned wsX0_degreeOf := goodIn_r _ [4, 5, 6, 7, 8, 9, 10, 11] (by eq_refl) gw_wsX0_degreeOf
set_option maxRecDepth 20000 in
theorem gX0_turned_X0_degreeOf : GoodIn wsX0_turned (va_wsS RX0 15 yX0_degreeOf wsX0_degreeOf) := goodIn_app (goodIn_r _ [1, 2, 3] (by eq_refl) (by decide +kernel)) ggX0_turned_X0_degreeOf
set_option maxRecDepth 20000 in
theorem ggX0_haveProduct_X0_degreeOf : GoodIn wsX0_haveProduct wsX0_degreeOf := goodIn_r _ [4, 5, 6, 7, 8, 9, 10, 11] (by eq_refl) gw_wsX0_degreeOf
set_option maxRecDepth 20000 in
theorem gX0_haveProduct_X0_degreeOf : GoodIn wsX0_haveProduct (va_wsS RX0 15 yX0_degreeOf wsX0_degreeOf) := goodIn_app (goodIn_r _ [1, 2, 3] (by eq_refl) (by decide +kernel)) ggX0_haveProduct_X0_degreeOf
set_option maxRecDepth 20000 in
theorem ggX0_multiplied_X0_degreeOf : GoodIn wsX0_multiplied wsX0_degreeOf := goodIn_r _ [4, 5, 6, 7, 8, 9, 10, 11] (by eq_refl) gw_wsX0_degreeOf
set_option maxRecDepth 20000 in
theorem gX0_multiplied_X0_degreeOf : GoodIn wsX0_multiplied (va_wsS RX0 15 yX0_degreeOf wsX0_degreeOf) := goodIn_app (goodIn_r _ [1, 2, 3] (by eq_refl) (by decide +kernel)) ggX0_multiplied_X0_degreeOf
set_option maxRecDepth 20000 in
theorem ggX0_multiplied_X0_hasOne : GoodIn wsX0_multiplied wsX0_hasOne := goodIn_r _ [14] (by eq_refl) gw_wsX0_hasOne
set_option maxRecDepth 20000 in
theorem gX0_multiplied_X0_hasOne : GoodIn wsX0_multiplied (va_wsS RX0 20 yX0_hasOne wsX0_hasOne) := goodIn_app (goodIn_r _ [12, 13, 3] (by eq_refl) (by decide +kernel)) ggX0_multiplied_X0_hasOne
set_option maxRecDepth 20000 in
theorem ggX0_squared_X0_degreeOf : GoodIn wsX0_squared wsX0_degreeOf := goodIn_r _ [4, 5, 6, 7, 8, 9, 10, 11] (by eq_refl) gw_wsX0_degreeOf
set_option maxRecDepth 20000 in
theorem gX0_squared_X0_degreeOf : GoodIn wsX0_squared (va_wsS RX0 15 yX0_degreeOf wsX0_degreeOf) := goodIn_app (goodIn_r _ [1, 2, 3] (by eq_refl) (by decide +kernel)) ggX0_squared_X0_degreeOf
set_option maxRecDepth 20000 in
theorem ggX0_quotient_X0_degreeOf : GoodIn wsX0_quotient wsX0_degreeOf := goodIn_r _ [4, 5, 6, 7, 8, 9, 10, 11] (by eq_refl) gw_wsX0_degreeOf
set_option maxRecDepth 20000 in
theorem gX0_quotient_X0_degreeOf : GoodIn wsX0_quotient (va_wsS RX0 15 yX0_degreeOf wsX0_degreeOf) := goodIn_app (goodIn_r _ [1, 2, 3] (by eq_refl) (by decide +kernel)) ggX0_quotient_X0_degreeOf
set_option maxRecDepth 20000 in
theorem ggX0_quotient_X0_hasOne : GoodIn wsX0_quotient wsX0_hasOne := goodIn_r _ [14] (by eq_refl) gw_wsX0_hasOne
set_option maxRecDepth 20000 in
theorem gX0_quotient_X0_hasOne : GoodIn wsX0_quotient (va_wsS RX0 20 yX0_hasOne wsX0_hasOne) := goodIn_app (goodIn_r _ [12, 13, 3] (by eq_refl) (by decide +kernel)) ggX0_quotient_X0_hasOne
set_option maxRecDepth 20000 in
theorem ggX0_rest_X0_degreeOf : GoodIn wsX0_rest wsX0_degreeOf := goodIn_r _ [4, 5, 6, 7, 8, 9, 10, 11] (by eq_refl) gw_wsX0_degreeOf
set_option maxRecDepth 20000 in
theorem gX0_rest_X0_degreeOf : GoodIn wsX0_rest (va_wsS RX0 15 yX0_degreeOf wsX0_degreeOf) := goodIn_app (goodIn_r _ [1, 2, 3] (by eq_refl) (by decide +kernel)) ggX0_rest_X0_degreeOf
set_option maxRecDepth 20000 in
theorem ggX0_rest_X0_hasOne : GoodIn wsX0_rest wsX0_hasOne := goodIn_r _ [14] (by eq_refl) gw_wsX0_hasOne
set_option maxRecDepth 20000 in
theorem gX0_rest_X0_hasOne : GoodIn wsX0_rest (va_wsS RX0 20 yX0_hasOne wsX0_hasOne) := goodIn_app (goodIn_r _ [12, 13, 3] (by eq_refl) (by decide +kernel)) ggX0_rest_X0_hasOne
set_option maxRecDepth 20000 in
theorem ggX0_goesInto_X0_rest : GoodIn wsX0_goesInto wsX0_rest := goodIn_r _ [4, 5, 6, 3, 7, 8, 9, 10, 11, 12, 13, 14, 15, 16, 17] (by eq_refl) gw_wsX0_rest
set_option maxRecDepth 20000 in
theorem gX0_goesInto_X0_rest : GoodIn wsX0_goesInto (va_wsS RX0 24 yX0_rest wsX0_rest) := goodIn_app (goodIn_r _ [1, 2, 3] (by eq_refl) (by decide +kernel)) ggX0_goesInto_X0_rest
set_option maxRecDepth 20000 in
theorem ggX0_greatestBoth_X0_rest : GoodIn wsX0_greatestBoth wsX0_rest := goodIn_r _ [4, 5, 6, 3, 7, 8, 9, 10, 11, 12, 13, 14, 15, 16, 17] (by eq_refl) gw_wsX0_rest
set_option maxRecDepth 20000 in
theorem gX0_greatestBoth_X0_rest : GoodIn wsX0_greatestBoth (va_wsS RX0 24 yX0_rest wsX0_rest) := goodIn_app (goodIn_r _ [1, 2, 3] (by eq_refl) (by decide +kernel)) ggX0_greatestBoth_X0_rest
set_option maxRecDepth 20000 in
theorem ggX0_risenRest_X0_rest : GoodIn wsX0_risenRest wsX0_rest := goodIn_r _ [5, 6, 7, 4, 8, 9, 10, 11, 12, 13, 14, 15, 16, 17, 18] (by eq_refl) gw_wsX0_rest
set_option maxRecDepth 20000 in
theorem gX0_risenRest_X0_rest : GoodIn wsX0_risenRest (va_wsS RX0 24 yX0_rest wsX0_rest) := goodIn_app (goodIn_r _ [2, 3, 4] (by eq_refl) (by decide +kernel)) ggX0_risenRest_X0_rest
set_option maxRecDepth 20000 in
theorem ggX0_risenRest_X0_squared : GoodIn wsX0_risenRest wsX0_squared := goodIn_r _ [21, 6, 7, 4, 8, 9, 10, 11, 12, 13, 14, 15] (by eq_refl) gw_wsX0_squared
set_option maxRecDepth 20000 in
theorem gX0_risenRest_X0_squared : GoodIn wsX0_risenRest (va_wsS RX0 30 yX0_squared wsX0_squared) := goodIn_app (goodIn_r _ [19, 20, 4] (by eq_refl) (by decide +kernel)) ggX0_risenRest_X0_squared
set_option maxRecDepth 20000 in
theorem ggX0_powerRest_X0_rest : GoodIn wsX0_powerRest wsX0_rest := goodIn_r _ [4, 5, 6, 3, 7, 8, 9, 10, 11, 12, 13, 14, 15, 16, 17] (by eq_refl) gw_wsX0_rest
set_option maxRecDepth 20000 in
theorem gX0_powerRest_X0_rest : GoodIn wsX0_powerRest (va_wsS RX0 24 yX0_rest wsX0_rest) := goodIn_app (goodIn_r _ [1, 2, 3] (by eq_refl) (by decide +kernel)) ggX0_powerRest_X0_rest
set_option maxRecDepth 20000 in
theorem ggX0_powerRest_X0_squared : GoodIn wsX0_powerRest wsX0_squared := goodIn_r _ [20, 5, 6, 3, 7, 8, 9, 10, 11, 12, 13, 14] (by eq_refl) gw_wsX0_squared
set_option maxRecDepth 20000 in
theorem gX0_powerRest_X0_squared : GoodIn wsX0_powerRest (va_wsS RX0 30 yX0_squared wsX0_squared) := goodIn_app (goodIn_r _ [18, 19, 3] (by eq_refl) (by decide +kernel)) ggX0_powerRest_X0_squared
set_option maxRecDepth 20000 in
theorem ggX0_powerRest_X0_multiplied : GoodIn wsX0_powerRest wsX0_multiplied := goodIn_r _ [23, 5, 6, 3, 7, 8, 9, 10, 11, 12, 13, 14, 15, 16, 17] (by eq_refl) gw_wsX0_multiplied
set_option maxRecDepth 20000 in
theorem gX0_powerRest_X0_multiplied : GoodIn wsX0_powerRest (va_wsS RX0 34 yX0_multiplied wsX0_multiplied) := goodIn_app (goodIn_r _ [21, 22, 3] (by eq_refl) (by decide +kernel)) ggX0_powerRest_X0_multiplied
set_option maxRecDepth 20000 in
theorem ggX0_trace_X0_rest : GoodIn wsX0_trace wsX0_rest := goodIn_r _ [4, 5, 6, 3, 7, 8, 9, 10, 11, 12, 13, 14, 15, 16, 17] (by eq_refl) gw_wsX0_rest
set_option maxRecDepth 20000 in
theorem gX0_trace_X0_rest : GoodIn wsX0_trace (va_wsS RX0 24 yX0_rest wsX0_rest) := goodIn_app (goodIn_r _ [1, 2, 3] (by eq_refl) (by decide +kernel)) ggX0_trace_X0_rest
set_option maxRecDepth 20000 in
theorem ggX0_trace_X0_squared : GoodIn wsX0_trace wsX0_squared := goodIn_r _ [20, 5, 6, 3, 7, 8, 9, 10, 11, 12, 13, 14] (by eq_refl) gw_wsX0_squared
set_option maxRecDepth 20000 in
theorem gX0_trace_X0_squared : GoodIn wsX0_trace (va_wsS RX0 30 yX0_squared wsX0_squared) := goodIn_app (goodIn_r _ [18, 19, 3] (by eq_refl) (by decide +kernel)) ggX0_trace_X0_squared
set_option maxRecDepth 20000 in
theorem ggX0_checkOf_X0_degreeOf : GoodIn wsX0_checkOf wsX0_degreeOf := goodIn_r _ [4, 5, 6, 7, 8, 9, 10, 11] (by eq_refl) gw_wsX0_degreeOf
set_option maxRecDepth 20000 in
theorem gX0_checkOf_X0_degreeOf : GoodIn wsX0_checkOf (va_wsS RX0 15 yX0_degreeOf wsX0_degreeOf) := goodIn_app (goodIn_r _ [1, 2, 3] (by eq_refl) (by decide +kernel)) ggX0_checkOf_X0_degreeOf
set_option maxRecDepth 20000 in
theorem ggX0_checkOf_X0_rest : GoodIn wsX0_checkOf wsX0_rest := goodIn_r _ [14, 1, 2, 3, 4, 5, 6, 7, 8, 9, 10, 11, 15, 16, 17] (by eq_refl) gw_wsX0_rest
set_option maxRecDepth 20000 in
theorem gX0_checkOf_X0_rest : GoodIn wsX0_checkOf (va_wsS RX0 24 yX0_rest wsX0_rest) := goodIn_app (goodIn_r _ [12, 13, 3] (by eq_refl) (by decide +kernel)) ggX0_checkOf_X0_rest
set_option maxRecDepth 20000 in
theorem ggX0_textOf_J4_init_da8c8 : GoodIn wsX0_textOf wsJ4_init_da8c8 := goodIn_r _ [6, 7, 8, 9, 10, 11, 12, 13, 14, 15, 16, 17, 18, 19, 20, 21, 22, 23, 24, 25, 234, 235, 236, 237] (by eq_refl) gw_wsJ4_init_da8c8
set_option maxRecDepth 20000 in
theorem gX0_textOf_J4_init_da8c8 : GoodIn wsX0_textOf (wsJ4_init_da8c8) := ggX0_textOf_J4_init_da8c8
set_option maxRecDepth 20000 in
theorem ggX0_textOf_X0_degreeOf : GoodIn wsX0_textOf wsX0_degreeOf := goodIn_r _ [29, 30, 31, 32, 33, 34, 35, 36] (by eq_refl) gw_wsX0_degreeOf
set_option maxRecDepth 20000 in
theorem gX0_textOf_X0_degreeOf : GoodIn wsX0_textOf (va_wsS RX0 15 yX0_degreeOf wsX0_degreeOf) := goodIn_app (goodIn_r _ [26, 27, 28] (by eq_refl) (by decide +kernel)) ggX0_textOf_X0_degreeOf
set_option maxRecDepth 20000 in
theorem ggX0_textOf_X0_hasOne : GoodIn wsX0_textOf wsX0_hasOne := goodIn_r _ [39] (by eq_refl) gw_wsX0_hasOne
set_option maxRecDepth 20000 in
theorem gX0_textOf_X0_hasOne : GoodIn wsX0_textOf (va_wsS RX0 20 yX0_hasOne wsX0_hasOne) := goodIn_app (goodIn_r _ [37, 38, 28] (by eq_refl) (by decide +kernel)) ggX0_textOf_X0_hasOne
set_option maxRecDepth 20000 in
theorem ggX0_textOf_J4_length_8abf5 : GoodIn wsX0_textOf wsJ4_length_8abf5 := goodIn_r _ [43, 44, 45, 46, 47, 9, 48, 49, 234, 235, 236, 237] (by eq_refl) gw_wsJ4_length_8abf5
set_option maxRecDepth 20000 in
theorem gX0_textOf_J4_length_8abf5 : GoodIn wsX0_textOf (wsV RX0 40 RJ4 yJ4_length_8abf5 wsJ4_length_8abf5) := goodIn_app (goodIn_r _ [40, 41, 42, 3] (by eq_refl) (by decide +kernel)) ggX0_textOf_J4_length_8abf5
set_option maxRecDepth 20000 in
theorem ggX0_textOf_J4_append_cf468 : GoodIn wsX0_textOf wsJ4_append_cf468 := goodIn_r _ [53, 54, 55, 46, 56, 9, 57, 49, 16, 58, 59, 60, 61, 62, 17, 63, 64, 65, 66, 67, 68, 69, 70, 71, 72, 73, 74, 75, 76, 77, 78, 79, 80, 81, 82, 83, 84, 85, 86, 87, 88, 89, 90, 15, 91, 92, 93, 94, 95, 96, 97, 98, 99, 100, 101, 102, 14, 103, 104, 105, 106, 107, 108, 109, 110, 111, 18, 19, 20, 21, 22, 23, 24, 25, 112, 113, 114, 115, 116, 117, 118, 119, 120, 121, 122, 123, 124, 125, 126, 127, 128, 129, 130, 131, 132, 133, 134, 135, 136, 137, 138, 139, 140, 141, 142, 143, 144, 145, 146, 147, 148, 149, 150, 234, 235, 236, 237] (by eq_refl) gw_wsJ4_append_cf468
set_option maxRecDepth 20000 in
theorem gX0_textOf_J4_append_cf468 : GoodIn wsX0_textOf (wsV RX0 44 RJ4 yJ4_append_cf468 wsJ4_append_cf468) := goodIn_app (goodIn_r _ [50, 51, 52, 3] (by eq_refl) (by decide +kernel)) ggX0_textOf_J4_append_cf468
set_option maxRecDepth 20000 in
theorem ggX0_textOf_J4_append_bf812 : GoodIn wsX0_textOf wsJ4_append_bf812 := goodIn_r _ [154, 155, 156, 46, 157, 9, 158, 49, 16, 159, 160, 161, 162, 58, 59, 60, 61, 62, 17, 63, 64, 65, 66, 67, 68, 69, 70, 71, 72, 73, 74, 75, 76, 77, 78, 79, 80, 81, 82, 83, 84, 85, 86, 87, 88, 89, 90, 15, 91, 92, 93, 94, 95, 96, 97, 98, 99, 100, 101, 102, 14, 163, 164, 165, 166, 167, 168, 169, 20, 170, 136, 171, 172, 173, 121, 122, 123, 174, 175, 126, 176, 128, 177, 178, 131, 179, 180, 181, 182, 183, 184, 133, 134, 135, 137, 138, 234, 235, 236, 237] (by eq_refl) gw_wsJ4_append_bf812
set_option maxRecDepth 20000 in
theorem gX0_textOf_J4_append_bf812 : GoodIn wsX0_textOf (wsV RX0 48 RJ4 yJ4_append_bf812 wsJ4_append_bf812) := goodIn_app (goodIn_r _ [151, 152, 153, 3] (by eq_refl) (by decide +kernel)) ggX0_textOf_J4_append_bf812
set_option maxRecDepth 20000 in
theorem ggX0_textOf_J4_toString_0e30d : GoodIn wsX0_textOf wsJ4_toString_0e30d := goodIn_r _ [188, 189, 190, 126, 191, 192, 193, 194, 195, 196, 197, 12, 13, 198, 199, 200, 201, 202, 203, 204, 205, 9, 206, 16, 207, 45, 208, 209, 41, 3, 43, 44, 46, 47, 48, 49, 210, 99, 100, 101, 102, 14, 17, 211, 212, 83, 213, 85, 86, 87, 88, 89, 90, 214, 215, 216, 15, 91, 92, 75, 93, 94, 95, 96, 97, 217, 218, 219, 220, 2, 221, 222, 20, 223, 224, 225, 226, 118, 119, 120, 121, 122, 123, 124, 125, 127, 128, 129, 130, 131, 132, 227, 228, 229, 136, 137, 138, 22, 23, 24, 25, 230, 231, 232, 233, 238, 239, 240, 241, 234, 235, 236, 237] (by eq_refl) gw_wsJ4_toString_0e30d
set_option maxRecDepth 20000 in
theorem gX0_textOf_J4_toString_0e30d : GoodIn wsX0_textOf (wsV RX0 51 RJ4 yJ4_toString_0e30d wsJ4_toString_0e30d) := goodIn_app (goodIn_r _ [185, 186, 187, 3] (by eq_refl) (by decide +kernel)) ggX0_textOf_J4_toString_0e30d
set_option maxRecDepth 20000 in
theorem ggX1_init_X3_init : GoodIn wsX1_init wsX3_init := goodIn_r _ [10, 11, 2, 3, 12, 13, 14, 15, 16, 17, 18] (by eq_refl) gw_wsX3_init
set_option maxRecDepth 20000 in
theorem gX1_init_X3_init : GoodIn wsX1_init (wsX3_init) := ggX1_init_X3_init
set_option maxRecDepth 20000 in
theorem ggX1_findByTrying_X3_removeAll : GoodIn wsX1_findByTrying wsX3_removeAll := goodIn_r _ [6, 7, 37, 38, 39] (by eq_refl) gw_wsX3_removeAll
set_option maxRecDepth 20000 in
theorem gX1_findByTrying_X3_removeAll : GoodIn wsX1_findByTrying (wsV RX1 18 RX3 yX3_removeAll wsX3_removeAll) := goodIn_app (goodIn_r _ [2, 3, 4, 5] (by eq_refl) (by decide +kernel)) ggX1_findByTrying_X3_removeAll
set_option maxRecDepth 20000 in
theorem ggX1_findByTrying_X0_degreeOf : GoodIn wsX1_findByTrying wsX0_degreeOf := goodIn_r _ [11, 12, 13, 14, 15, 16, 17, 18] (by eq_refl) gw_wsX0_degreeOf
set_option maxRecDepth 20000 in
theorem gX1_findByTrying_X0_degreeOf : GoodIn wsX1_findByTrying (va_wsS RX1 23 yX0_degreeOf wsX0_degreeOf) := goodIn_app (goodIn_r _ [8, 9, 10] (by eq_refl) (by decide +kernel)) ggX1_findByTrying_X0_degreeOf
set_option maxRecDepth 20000 in
theorem ggX1_findByTrying_X0_goesInto : GoodIn wsX1_findByTrying wsX0_goesInto := goodIn_r _ [21, 22, 23, 10, 24, 25, 9, 11, 12, 13, 14, 15, 16, 17, 18, 26, 27, 28] (by eq_refl) gw_wsX0_goesInto
set_option maxRecDepth 20000 in
theorem gX1_findByTrying_X0_goesInto : GoodIn wsX1_findByTrying (va_wsS RX1 29 yX0_goesInto wsX0_goesInto) := goodIn_app (goodIn_r _ [19, 20, 10] (by eq_refl) (by decide +kernel)) ggX1_findByTrying_X0_goesInto
set_option maxRecDepth 20000 in
theorem ggX1_findByTrying_X3_append : GoodIn wsX1_findByTrying wsX3_append := goodIn_r _ [32, 7, 33, 37, 38, 39] (by eq_refl) gw_wsX3_append
set_option maxRecDepth 20000 in
theorem gX1_findByTrying_X3_append : GoodIn wsX1_findByTrying (wsV RX1 33 RX3 yX3_append wsX3_append) := goodIn_app (goodIn_r _ [29, 30, 31, 5] (by eq_refl) (by decide +kernel)) ggX1_findByTrying_X3_append
set_option maxRecDepth 20000 in
theorem ggX1_findByTrying_X0_quotient : GoodIn wsX1_findByTrying wsX0_quotient := goodIn_r _ [36, 25, 9, 10, 11, 12, 13, 14, 15, 16, 17, 18, 26, 27, 28] (by eq_refl) gw_wsX0_quotient
set_option maxRecDepth 20000 in
theorem gX1_findByTrying_X0_quotient : GoodIn wsX1_findByTrying (va_wsS RX1 37 yX0_quotient wsX0_quotient) := goodIn_app (goodIn_r _ [34, 35, 10] (by eq_refl) (by decide +kernel)) ggX1_findByTrying_X0_quotient
set_option maxRecDepth 20000 in
theorem ggX1_findByDegrees_X3_removeAll : GoodIn wsX1_findByDegrees wsX3_removeAll := goodIn_r _ [7, 8, 68, 69, 70] (by eq_refl) gw_wsX3_removeAll
set_option maxRecDepth 20000 in
theorem gX1_findByDegrees_X3_removeAll : GoodIn wsX1_findByDegrees (wsV RX1 18 RX3 yX3_removeAll wsX3_removeAll) := goodIn_app (goodIn_r _ [3, 4, 5, 6] (by eq_refl) (by decide +kernel)) ggX1_findByDegrees_X3_removeAll
set_option maxRecDepth 20000 in
theorem ggX1_findByDegrees_X0_degreeOf : GoodIn wsX1_findByDegrees wsX0_degreeOf := goodIn_r _ [12, 13, 14, 15, 16, 17, 18, 19] (by eq_refl) gw_wsX0_degreeOf
set_option maxRecDepth 20000 in
theorem gX1_findByDegrees_X0_degreeOf : GoodIn wsX1_findByDegrees (va_wsS RX1 23 yX0_degreeOf wsX0_degreeOf) := goodIn_app (goodIn_r _ [9, 10, 11] (by eq_refl) (by decide +kernel)) ggX1_findByDegrees_X0_degreeOf
set_option maxRecDepth 20000 in
theorem ggX1_findByDegrees_X0_risenRest : GoodIn wsX1_findByDegrees wsX0_risenRest := goodIn_r _ [22, 23, 24, 25, 11, 26, 27, 10, 12, 13, 14, 15, 16, 17, 18, 19, 28, 29, 30, 31, 32, 33] (by eq_refl) gw_wsX0_risenRest
set_option maxRecDepth 20000 in
theorem gX1_findByDegrees_X0_risenRest : GoodIn wsX1_findByDegrees (va_wsS RX1 41 yX0_risenRest wsX0_risenRest) := goodIn_app (goodIn_r _ [20, 21, 11] (by eq_refl) (by decide +kernel)) ggX1_findByDegrees_X0_risenRest
set_option maxRecDepth 20000 in
theorem ggX1_findByDegrees_X0_greatestBoth : GoodIn wsX1_findByDegrees wsX0_greatestBoth := goodIn_r _ [36, 24, 25, 11, 26, 27, 10, 12, 13, 14, 15, 16, 17, 18, 19, 28, 29, 30] (by eq_refl) gw_wsX0_greatestBoth
set_option maxRecDepth 20000 in
theorem gX1_findByDegrees_X0_greatestBoth : GoodIn wsX1_findByDegrees (va_wsS RX1 45 yX0_greatestBoth wsX0_greatestBoth) := goodIn_app (goodIn_r _ [34, 35, 11] (by eq_refl) (by decide +kernel)) ggX1_findByDegrees_X0_greatestBoth
set_option maxRecDepth 20000 in
theorem ggX1_findByDegrees_X1_partByTraces : GoodIn wsX1_findByDegrees wsX1_partByTraces := goodIn_r _ [41, 2, 3, 4, 5, 6, 7, 8, 9, 10, 11, 12, 13, 14, 15, 16, 17, 18, 19, 42, 43, 44, 45, 46, 47, 48, 49, 50, 51, 52, 53, 24, 25, 26, 27, 28, 29, 30, 31, 32, 33, 34, 35, 36, 54, 55, 56, 57, 58, 59, 60, 67, 68, 69, 70] (by eq_refl) gw_wsX1_partByTraces
set_option maxRecDepth 20000 in
theorem gX1_findByDegrees_X1_partByTraces : GoodIn wsX1_findByDegrees (wsV RX1 48 RX1 yX1_partByTraces wsX1_partByTraces) := goodIn_app (goodIn_r _ [37, 38, 39, 40] (by eq_refl) (by decide +kernel)) ggX1_findByDegrees_X1_partByTraces
set_option maxRecDepth 20000 in
theorem ggX1_findByDegrees_X3_at : GoodIn wsX1_findByDegrees wsX3_at := goodIn_r _ [50, 8, 46, 68, 69, 70] (by eq_refl) gw_wsX3_at
set_option maxRecDepth 20000 in
theorem gX1_findByDegrees_X3_at : GoodIn wsX1_findByDegrees (wsV RX1 56 RX3 yX3_at wsX3_at) := goodIn_app (goodIn_r _ [47, 48, 49, 6] (by eq_refl) (by decide +kernel)) ggX1_findByDegrees_X3_at
set_option maxRecDepth 20000 in
theorem ggX1_findByDegrees_X1_dividedOut : GoodIn wsX1_findByDegrees wsX1_dividedOut := goodIn_r _ [63, 64, 65, 11, 66, 24, 25, 26, 27, 10, 12, 13, 14, 15, 16, 17, 18, 19, 28, 29, 30, 42, 43, 44, 6, 45, 8, 46, 58, 59, 60, 68, 69, 70] (by eq_refl) gw_wsX1_dividedOut
set_option maxRecDepth 20000 in
theorem gX1_findByDegrees_X1_dividedOut : GoodIn wsX1_findByDegrees (va_wsS RX1 60 yX1_dividedOut wsX1_dividedOut) := goodIn_app (goodIn_r _ [61, 62, 40] (by eq_refl) (by decide +kernel)) ggX1_findByDegrees_X1_dividedOut
set_option maxRecDepth 20000 in
theorem ggX1_partByTraces_X3_removeAll : GoodIn wsX1_partByTraces wsX3_removeAll := goodIn_r _ [6, 7, 52, 53, 54] (by eq_refl) gw_wsX3_removeAll
set_option maxRecDepth 20000 in
theorem gX1_partByTraces_X3_removeAll : GoodIn wsX1_partByTraces (wsV RX1 18 RX3 yX3_removeAll wsX3_removeAll) := goodIn_app (goodIn_r _ [2, 3, 4, 5] (by eq_refl) (by decide +kernel)) ggX1_partByTraces_X3_removeAll
set_option maxRecDepth 20000 in
theorem ggX1_partByTraces_X0_degreeOf : GoodIn wsX1_partByTraces wsX0_degreeOf := goodIn_r _ [11, 12, 13, 14, 15, 16, 17, 18] (by eq_refl) gw_wsX0_degreeOf
set_option maxRecDepth 20000 in
theorem gX1_partByTraces_X0_degreeOf : GoodIn wsX1_partByTraces (va_wsS RX1 23 yX0_degreeOf wsX0_degreeOf) := goodIn_app (goodIn_r _ [8, 9, 10] (by eq_refl) (by decide +kernel)) ggX1_partByTraces_X0_degreeOf
set_option maxRecDepth 20000 in
theorem ggX1_partByTraces_X3_append : GoodIn wsX1_partByTraces wsX3_append := goodIn_r _ [22, 7, 23, 52, 53, 54] (by eq_refl) gw_wsX3_append
set_option maxRecDepth 20000 in
theorem gX1_partByTraces_X3_append : GoodIn wsX1_partByTraces (wsV RX1 33 RX3 yX3_append wsX3_append) := goodIn_app (goodIn_r _ [19, 20, 21, 5] (by eq_refl) (by decide +kernel)) ggX1_partByTraces_X3_append
set_option maxRecDepth 20000 in
theorem ggX1_partByTraces_X3_at : GoodIn wsX1_partByTraces wsX3_at := goodIn_r _ [27, 7, 23, 52, 53, 54] (by eq_refl) gw_wsX3_at
set_option maxRecDepth 20000 in
theorem gX1_partByTraces_X3_at : GoodIn wsX1_partByTraces (wsV RX1 56 RX3 yX3_at wsX3_at) := goodIn_app (goodIn_r _ [24, 25, 26, 5] (by eq_refl) (by decide +kernel)) ggX1_partByTraces_X3_at
set_option maxRecDepth 20000 in
theorem ggX1_partByTraces_X0_trace : GoodIn wsX1_partByTraces wsX0_trace := goodIn_r _ [30, 31, 32, 10, 33, 34, 9, 11, 12, 13, 14, 15, 16, 17, 18, 35, 36, 37, 38, 39, 40] (by eq_refl) gw_wsX0_trace
set_option maxRecDepth 20000 in
theorem gX1_partByTraces_X0_trace : GoodIn wsX1_partByTraces (va_wsS RX1 64 yX0_trace wsX0_trace) := goodIn_app (goodIn_r _ [28, 29, 10] (by eq_refl) (by decide +kernel)) ggX1_partByTraces_X0_trace
set_option maxRecDepth 20000 in
theorem ggX1_partByTraces_X0_greatestBoth : GoodIn wsX1_partByTraces wsX0_greatestBoth := goodIn_r _ [43, 31, 32, 10, 33, 34, 9, 11, 12, 13, 14, 15, 16, 17, 18, 35, 36, 37] (by eq_refl) gw_wsX0_greatestBoth
set_option maxRecDepth 20000 in
theorem gX1_partByTraces_X0_greatestBoth : GoodIn wsX1_partByTraces (va_wsS RX1 45 yX0_greatestBoth wsX0_greatestBoth) := goodIn_app (goodIn_r _ [41, 42, 10] (by eq_refl) (by decide +kernel)) ggX1_partByTraces_X0_greatestBoth
set_option maxRecDepth 20000 in
theorem ggX1_partByTraces_X3_put : GoodIn wsX1_partByTraces wsX3_put := goodIn_r _ [47, 7, 23, 52, 53, 54] (by eq_refl) gw_wsX3_put
set_option maxRecDepth 20000 in
theorem gX1_partByTraces_X3_put : GoodIn wsX1_partByTraces (wsV RX1 68 RX3 yX3_put wsX3_put) := goodIn_app (goodIn_r _ [44, 45, 46, 5] (by eq_refl) (by decide +kernel)) ggX1_partByTraces_X3_put
set_option maxRecDepth 20000 in
theorem ggX1_partByTraces_X0_quotient : GoodIn wsX1_partByTraces wsX0_quotient := goodIn_r _ [50, 34, 9, 10, 11, 12, 13, 14, 15, 16, 17, 18, 35, 36, 37] (by eq_refl) gw_wsX0_quotient
set_option maxRecDepth 20000 in
theorem gX1_partByTraces_X0_quotient : GoodIn wsX1_partByTraces (va_wsS RX1 37 yX0_quotient wsX0_quotient) := goodIn_app (goodIn_r _ [48, 49, 10] (by eq_refl) (by decide +kernel)) ggX1_partByTraces_X0_quotient
set_option maxRecDepth 20000 in
theorem ggX1_dividedOut_X0_goesInto : GoodIn wsX1_dividedOut wsX0_goesInto := goodIn_r _ [4, 5, 6, 3, 7, 8, 9, 10, 11, 12, 13, 14, 15, 16, 17, 18, 19, 20] (by eq_refl) gw_wsX0_goesInto
set_option maxRecDepth 20000 in
theorem gX1_dividedOut_X0_goesInto : GoodIn wsX1_dividedOut (va_wsS RX1 29 yX0_goesInto wsX0_goesInto) := goodIn_app (goodIn_r _ [1, 2, 3] (by eq_refl) (by decide +kernel)) ggX1_dividedOut_X0_goesInto
set_option maxRecDepth 20000 in
theorem ggX1_dividedOut_X3_append : GoodIn wsX1_dividedOut wsX3_append := goodIn_r _ [25, 26, 27, 31, 32, 33] (by eq_refl) gw_wsX3_append
set_option maxRecDepth 20000 in
theorem gX1_dividedOut_X3_append : GoodIn wsX1_dividedOut (wsV RX1 33 RX3 yX3_append wsX3_append) := goodIn_app (goodIn_r _ [21, 22, 23, 24] (by eq_refl) (by decide +kernel)) ggX1_dividedOut_X3_append
set_option maxRecDepth 20000 in
theorem ggX1_dividedOut_X0_quotient : GoodIn wsX1_dividedOut wsX0_quotient := goodIn_r _ [30, 8, 9, 3, 10, 11, 12, 13, 14, 15, 16, 17, 18, 19, 20] (by eq_refl) gw_wsX0_quotient
set_option maxRecDepth 20000 in
theorem gX1_dividedOut_X0_quotient : GoodIn wsX1_dividedOut (va_wsS RX1 37 yX0_quotient wsX0_quotient) := goodIn_app (goodIn_r _ [28, 29, 3] (by eq_refl) (by decide +kernel)) ggX1_dividedOut_X0_quotient
set_option maxRecDepth 20000 in
theorem ggX2_isByTrying_X0_degreeOf : GoodIn wsX2_isByTrying wsX0_degreeOf := goodIn_r _ [5, 6, 7, 8, 9, 10, 11, 12] (by eq_refl) gw_wsX0_degreeOf
set_option maxRecDepth 20000 in
theorem gX2_isByTrying_X0_degreeOf : GoodIn wsX2_isByTrying (va_wsS RX2 9 yX0_degreeOf wsX0_degreeOf) := goodIn_app (goodIn_r _ [2, 3, 4] (by eq_refl) (by decide +kernel)) ggX2_isByTrying_X0_degreeOf
set_option maxRecDepth 20000 in
theorem ggX2_isByTrying_X0_goesInto : GoodIn wsX2_isByTrying wsX0_goesInto := goodIn_r _ [15, 16, 17, 4, 18, 19, 3, 5, 6, 7, 8, 9, 10, 11, 12, 20, 21, 22] (by eq_refl) gw_wsX0_goesInto
set_option maxRecDepth 20000 in
theorem gX2_isByTrying_X0_goesInto : GoodIn wsX2_isByTrying (va_wsS RX2 17 yX0_goesInto wsX0_goesInto) := goodIn_app (goodIn_r _ [13, 14, 4] (by eq_refl) (by decide +kernel)) ggX2_isByTrying_X0_goesInto
set_option maxRecDepth 20000 in
theorem ggX2_isByRising_X0_degreeOf : GoodIn wsX2_isByRising wsX0_degreeOf := goodIn_r _ [5, 6, 7, 8, 9, 10, 11, 12] (by eq_refl) gw_wsX0_degreeOf
set_option maxRecDepth 20000 in
theorem gX2_isByRising_X0_degreeOf : GoodIn wsX2_isByRising (va_wsS RX2 9 yX0_degreeOf wsX0_degreeOf) := goodIn_app (goodIn_r _ [2, 3, 4] (by eq_refl) (by decide +kernel)) ggX2_isByRising_X0_degreeOf
set_option maxRecDepth 20000 in
theorem ggX2_isByRising_X0_risenRest : GoodIn wsX2_isByRising wsX0_risenRest := goodIn_r _ [15, 16, 17, 18, 4, 19, 20, 3, 5, 6, 7, 8, 9, 10, 11, 12, 21, 22, 23, 24, 25, 26] (by eq_refl) gw_wsX0_risenRest
set_option maxRecDepth 20000 in
theorem gX2_isByRising_X0_risenRest : GoodIn wsX2_isByRising (va_wsS RX2 21 yX0_risenRest wsX0_risenRest) := goodIn_app (goodIn_r _ [13, 14, 4] (by eq_refl) (by decide +kernel)) ggX2_isByRising_X0_risenRest
set_option maxRecDepth 20000 in
theorem ggX2_isByRising_X0_goesInto : GoodIn wsX2_isByRising wsX0_goesInto := goodIn_r _ [29, 17, 18, 4, 19, 20, 3, 5, 6, 7, 8, 9, 10, 11, 12, 21, 22, 23] (by eq_refl) gw_wsX0_goesInto
set_option maxRecDepth 20000 in
theorem gX2_isByRising_X0_goesInto : GoodIn wsX2_isByRising (va_wsS RX2 17 yX0_goesInto wsX0_goesInto) := goodIn_app (goodIn_r _ [27, 28, 4] (by eq_refl) (by decide +kernel)) ggX2_isByRising_X0_goesInto
set_option maxRecDepth 20000 in
theorem ggX2_isByRising_X2_isPrimeNumber : GoodIn wsX2_isByRising wsX2_isPrimeNumber := goodIn_r _ [33] (by eq_refl) gw_wsX2_isPrimeNumber
set_option maxRecDepth 20000 in
theorem gX2_isByRising_X2_isPrimeNumber : GoodIn wsX2_isByRising (va_wsS RX2 25 yX2_isPrimeNumber wsX2_isPrimeNumber) := goodIn_app (goodIn_r _ [30, 31, 32] (by eq_refl) (by decide +kernel)) ggX2_isByRising_X2_isPrimeNumber
set_option maxRecDepth 20000 in
theorem ggX2_isByRising_X0_greatestBoth : GoodIn wsX2_isByRising wsX0_greatestBoth := goodIn_r _ [36, 17, 18, 4, 19, 20, 3, 5, 6, 7, 8, 9, 10, 11, 12, 21, 22, 23] (by eq_refl) gw_wsX0_greatestBoth
set_option maxRecDepth 20000 in
theorem gX2_isByRising_X0_greatestBoth : GoodIn wsX2_isByRising (va_wsS RX2 31 yX0_greatestBoth wsX0_greatestBoth) := goodIn_app (goodIn_r _ [34, 35, 4] (by eq_refl) (by decide +kernel)) ggX2_isByRising_X0_greatestBoth
set_option maxRecDepth 20000 in
theorem ggX2_howManyBySum_X2_markOf : GoodIn wsX2_howManyBySum wsX2_markOf := goodIn_r _ [4, 5, 6, 3, 7] (by eq_refl) gw_wsX2_markOf
set_option maxRecDepth 20000 in
theorem gX2_howManyBySum_X2_markOf : GoodIn wsX2_howManyBySum (va_wsS RX2 35 yX2_markOf wsX2_markOf) := goodIn_app (goodIn_r _ [1, 2, 3] (by eq_refl) (by decide +kernel)) ggX2_howManyBySum_X2_markOf
set_option maxRecDepth 20000 in
theorem ggX2_markOf_X2_isPrimeNumber : GoodIn wsX2_markOf wsX2_isPrimeNumber := goodIn_r _ [4] (by eq_refl) gw_wsX2_isPrimeNumber
set_option maxRecDepth 20000 in
theorem gX2_markOf_X2_isPrimeNumber : GoodIn wsX2_markOf (va_wsS RX2 25 yX2_isPrimeNumber wsX2_isPrimeNumber) := goodIn_app (goodIn_r _ [1, 2, 3] (by eq_refl) (by decide +kernel)) ggX2_markOf_X2_isPrimeNumber
set_option maxRecDepth 20000 in
theorem ggX2_howManyByCounting_X2_isByTrying : GoodIn wsX2_howManyByCounting wsX2_isByTrying := goodIn_r _ [5, 1, 6, 7, 8, 9, 10, 11, 12, 13, 14, 15, 16, 17, 18, 19, 20, 21, 22, 23, 24, 25, 26] (by eq_refl) gw_wsX2_isByTrying
set_option maxRecDepth 20000 in
theorem gX2_howManyByCounting_X2_isByTrying : GoodIn wsX2_howManyByCounting (va_wsS RX2 39 yX2_isByTrying wsX2_isByTrying) := goodIn_app (goodIn_r _ [2, 3, 4] (by eq_refl) (by decide +kernel)) ggX2_howManyByCounting_X2_isByTrying
set_option maxRecDepth 20000 in
theorem ggX2_codeOf_X2_isByTrying : GoodIn wsX2_codeOf wsX2_isByTrying := goodIn_r _ [4, 5, 6, 7, 8, 9, 10, 11, 12, 13, 14, 15, 16, 17, 18, 19, 20, 21, 22, 23, 24, 25, 26] (by eq_refl) gw_wsX2_isByTrying
set_option maxRecDepth 20000 in
theorem gX2_codeOf_X2_isByTrying : GoodIn wsX2_codeOf (va_wsS RX2 39 yX2_isByTrying wsX2_isByTrying) := goodIn_app (goodIn_r _ [1, 2, 3] (by eq_refl) (by decide +kernel)) ggX2_codeOf_X2_isByTrying
set_option maxRecDepth 20000 in
theorem ggX2_productOfAll_X2_productOfDegree : GoodIn wsX2_productOfAll wsX2_productOfDegree := goodIn_r _ [4, 5, 6, 7, 3, 8, 9, 10, 11, 12, 13, 14, 15, 16, 17, 18, 19, 20, 21, 22, 23, 24, 25, 26, 27, 28, 29, 30, 31, 32] (by eq_refl) gw_wsX2_productOfDegree
set_option maxRecDepth 20000 in
theorem gX2_productOfAll_X2_productOfDegree : GoodIn wsX2_productOfAll (va_wsS RX2 43 yX2_productOfDegree wsX2_productOfDegree) := goodIn_app (goodIn_r _ [1, 2, 3] (by eq_refl) (by decide +kernel)) ggX2_productOfAll_X2_productOfDegree
set_option maxRecDepth 20000 in
theorem ggX2_productOfAll_X0_multiplied : GoodIn wsX2_productOfAll wsX0_multiplied := goodIn_r _ [32, 26, 10, 11, 12, 13, 14, 15, 16, 17, 18, 19, 27, 28, 29] (by eq_refl) gw_wsX0_multiplied
set_option maxRecDepth 20000 in
theorem gX2_productOfAll_X0_multiplied : GoodIn wsX2_productOfAll (va_wsS RX2 47 yX0_multiplied wsX0_multiplied) := goodIn_app (goodIn_r _ [30, 31, 11] (by eq_refl) (by decide +kernel)) ggX2_productOfAll_X0_multiplied
set_option maxRecDepth 20000 in
theorem ggX2_productOfDegree_X2_isByTrying : GoodIn wsX2_productOfDegree wsX2_isByTrying := goodIn_r _ [5, 1, 6, 7, 8, 9, 10, 11, 12, 13, 14, 15, 16, 17, 18, 19, 20, 21, 22, 23, 24, 25, 26] (by eq_refl) gw_wsX2_isByTrying
set_option maxRecDepth 20000 in
theorem gX2_productOfDegree_X2_isByTrying : GoodIn wsX2_productOfDegree (va_wsS RX2 39 yX2_isByTrying wsX2_isByTrying) := goodIn_app (goodIn_r _ [2, 3, 4] (by eq_refl) (by decide +kernel)) ggX2_productOfDegree_X2_isByTrying
set_option maxRecDepth 20000 in
theorem ggX2_productOfDegree_X0_multiplied : GoodIn wsX2_productOfDegree wsX0_multiplied := goodIn_r _ [29, 23, 7, 8, 9, 10, 11, 12, 13, 14, 15, 16, 24, 25, 26] (by eq_refl) gw_wsX0_multiplied
set_option maxRecDepth 20000 in
theorem gX2_productOfDegree_X0_multiplied : GoodIn wsX2_productOfDegree (va_wsS RX2 47 yX0_multiplied wsX0_multiplied) := goodIn_app (goodIn_r _ [27, 28, 8] (by eq_refl) (by decide +kernel)) ggX2_productOfDegree_X0_multiplied
set_option maxRecDepth 20000 in
theorem ggX3_arrange_X3_howManyOthers : GoodIn wsX3_arrange wsX3_howManyOthers := goodIn_r _ [12, 7, 1, 2, 13, 14, 15] (by eq_refl) gw_wsX3_howManyOthers
set_option maxRecDepth 20000 in
theorem gX3_arrange_X3_howManyOthers : GoodIn wsX3_arrange (wsV RX3 28 RX3 yX3_howManyOthers wsX3_howManyOthers) := goodIn_app (goodIn_r _ [8, 9, 10, 11] (by eq_refl) (by decide +kernel)) ggX3_arrange_X3_howManyOthers
set_option maxRecDepth 20000 in
theorem ggX3_turnEach_X0_turned : GoodIn wsX3_turnEach wsX0_turned := goodIn_r _ [11, 12, 13, 10, 14, 15, 16, 17, 18, 19, 20, 21] (by eq_refl) gw_wsX0_turned
set_option maxRecDepth 20000 in
theorem gX3_turnEach_X0_turned : GoodIn wsX3_turnEach (va_wsS RX3 32 yX0_turned wsX0_turned) := goodIn_app (goodIn_r _ [8, 9, 10] (by eq_refl) (by decide +kernel)) ggX3_turnEach_X0_turned
set_option maxRecDepth 20000 in
theorem ggX3_turnEach_X3_howManyOthers : GoodIn wsX3_turnEach wsX3_howManyOthers := goodIn_r _ [26, 7, 1, 2, 27, 28, 29] (by eq_refl) gw_wsX3_howManyOthers
set_option maxRecDepth 20000 in
theorem gX3_turnEach_X3_howManyOthers : GoodIn wsX3_turnEach (wsV RX3 28 RX3 yX3_howManyOthers wsX3_howManyOthers) := goodIn_app (goodIn_r _ [22, 23, 24, 25] (by eq_refl) (by decide +kernel)) ggX3_turnEach_X3_howManyOthers
set_option maxRecDepth 20000 in
theorem ggX3_degreesTogether_X0_degreeOf : GoodIn wsX3_degreesTogether wsX0_degreeOf := goodIn_r _ [6, 7, 8, 9, 10, 11, 12, 13] (by eq_refl) gw_wsX0_degreeOf
set_option maxRecDepth 20000 in
theorem gX3_degreesTogether_X0_degreeOf : GoodIn wsX3_degreesTogether (va_wsS RX3 38 yX0_degreeOf wsX0_degreeOf) := goodIn_app (goodIn_r _ [3, 4, 5] (by eq_refl) (by decide +kernel)) ggX3_degreesTogether_X0_degreeOf
set_option maxRecDepth 20000 in
theorem ggX3_multipliedAll_X3_hasEmpty : GoodIn wsX3_multipliedAll wsX3_hasEmpty := goodIn_r _ [7, 1, 2, 25, 26, 27] (by eq_refl) gw_wsX3_hasEmpty
set_option maxRecDepth 20000 in
theorem gX3_multipliedAll_X3_hasEmpty : GoodIn wsX3_multipliedAll (wsV RX3 42 RX3 yX3_hasEmpty wsX3_hasEmpty) := goodIn_app (goodIn_r _ [3, 4, 5, 6] (by eq_refl) (by decide +kernel)) ggX3_multipliedAll_X3_hasEmpty
set_option maxRecDepth 20000 in
theorem ggX3_multipliedAll_X0_multiplied : GoodIn wsX3_multipliedAll wsX0_multiplied := goodIn_r _ [11, 12, 13, 10, 14, 15, 16, 17, 18, 19, 20, 21, 22, 23, 24] (by eq_refl) gw_wsX0_multiplied
set_option maxRecDepth 20000 in
theorem gX3_multipliedAll_X0_multiplied : GoodIn wsX3_multipliedAll (va_wsS RX3 46 yX0_multiplied wsX0_multiplied) := goodIn_app (goodIn_r _ [8, 9, 10] (by eq_refl) (by decide +kernel)) ggX3_multipliedAll_X0_multiplied
set_option maxRecDepth 20000 in
theorem ggX4_workOut_X0_quotient : GoodIn wsX4_workOut wsX0_quotient := goodIn_r _ [10, 11, 12, 9, 13, 14, 15, 16, 17, 18, 19, 20, 21, 22, 23] (by eq_refl) gw_wsX0_quotient
set_option maxRecDepth 20000 in
theorem gX4_workOut_X0_quotient : GoodIn wsX4_workOut (va_wsS RX4 30 yX0_quotient wsX0_quotient) := goodIn_app (goodIn_r _ [7, 8, 9] (by eq_refl) (by decide +kernel)) ggX4_workOut_X0_quotient
set_option maxRecDepth 20000 in
theorem ggX4_workOut_X4_goOn : GoodIn wsX4_workOut wsX4_goOn := goodIn_r _ [28, 1, 4, 2, 5, 3, 6, 29, 30, 9, 31, 11, 12, 13, 14, 15, 16, 17, 18, 19, 20, 21, 22, 23, 32, 33, 34, 35, 36, 37] (by eq_refl) gw_wsX4_goOn
set_option maxRecDepth 20000 in
theorem gX4_workOut_X4_goOn : GoodIn wsX4_workOut (wsV RX4 36 RX4 yX4_goOn wsX4_goOn) := goodIn_app (goodIn_r _ [24, 25, 26, 27] (by eq_refl) (by decide +kernel)) ggX4_workOut_X4_goOn
set_option maxRecDepth 20000 in
theorem ggX4_goOn_X0_multiplied : GoodIn wsX4_goOn wsX0_multiplied := goodIn_r _ [10, 11, 12, 9, 13, 14, 15, 16, 17, 18, 19, 20, 21, 22, 23] (by eq_refl) gw_wsX0_multiplied
set_option maxRecDepth 20000 in
theorem gX4_goOn_X0_multiplied : GoodIn wsX4_goOn (va_wsS RX4 40 yX0_multiplied wsX0_multiplied) := goodIn_app (goodIn_r _ [7, 8, 9] (by eq_refl) (by decide +kernel)) ggX4_goOn_X0_multiplied
set_option maxRecDepth 20000 in
theorem ggX5_beginAnew_X5_cellsBegun : GoodIn wsX5_beginAnew wsX5_cellsBegun := goodIn_r _ [6, 7, 8, 9, 10, 11, 12, 13, 14, 15, 16, 17] (by eq_refl) gw_wsX5_cellsBegun
set_option maxRecDepth 20000 in
theorem gX5_beginAnew_X5_cellsBegun : GoodIn wsX5_beginAnew (va_wsS RX5 20 yX5_cellsBegun wsX5_cellsBegun) := goodIn_app (goodIn_r _ [3, 4, 5] (by eq_refl) (by decide +kernel)) ggX5_beginAnew_X5_cellsBegun
set_option maxRecDepth 20000 in
theorem ggX5_cellsBegun_X0_degreeOf : GoodIn wsX5_cellsBegun wsX0_degreeOf := goodIn_r _ [4, 5, 6, 7, 8, 9, 10, 11] (by eq_refl) gw_wsX0_degreeOf
set_option maxRecDepth 20000 in
theorem gX5_cellsBegun_X0_degreeOf : GoodIn wsX5_cellsBegun (va_wsS RX5 24 yX0_degreeOf wsX0_degreeOf) := goodIn_app (goodIn_r _ [1, 2, 3] (by eq_refl) (by decide +kernel)) ggX5_cellsBegun_X0_degreeOf
set_option maxRecDepth 20000 in
theorem ggX5_stepped_X0_onesOf : GoodIn wsX5_stepped wsX0_onesOf := goodIn_r _ [4, 5, 6, 7, 8, 9, 10, 11] (by eq_refl) gw_wsX0_onesOf
set_option maxRecDepth 20000 in
theorem gX5_stepped_X0_onesOf : GoodIn wsX5_stepped (va_wsS RX5 30 yX0_onesOf wsX0_onesOf) := goodIn_app (goodIn_r _ [1, 2, 3] (by eq_refl) (by decide +kernel)) ggX5_stepped_X0_onesOf
set_option maxRecDepth 20000 in
theorem ggX5_stepped_X0_degreeOf : GoodIn wsX5_stepped wsX0_degreeOf := goodIn_r _ [14, 5, 6, 7, 8, 9, 10, 11] (by eq_refl) gw_wsX0_degreeOf
set_option maxRecDepth 20000 in
theorem gX5_stepped_X0_degreeOf : GoodIn wsX5_stepped (va_wsS RX5 24 yX0_degreeOf wsX0_degreeOf) := goodIn_app (goodIn_r _ [12, 13, 3] (by eq_refl) (by decide +kernel)) ggX5_stepped_X0_degreeOf
set_option maxRecDepth 20000 in
theorem ggX5_goOn_X5_stepped : GoodIn wsX5_goOn wsX5_stepped := goodIn_r _ [6, 7, 8, 9, 10, 11, 12, 13, 14, 15, 16, 17, 18, 19, 20] (by eq_refl) gw_wsX5_stepped
set_option maxRecDepth 20000 in
theorem gX5_goOn_X5_stepped : GoodIn wsX5_goOn (va_wsS RX5 33 yX5_stepped wsX5_stepped) := goodIn_app (goodIn_r _ [3, 4, 5] (by eq_refl) (by decide +kernel)) ggX5_goOn_X5_stepped
set_option maxRecDepth 20000 in
theorem ggX5_stepsTillSame_X5_stepped : GoodIn wsX5_stepsTillSame wsX5_stepped := goodIn_r _ [4, 5, 6, 7, 8, 9, 10, 11, 12, 13, 14, 15, 16, 17, 18] (by eq_refl) gw_wsX5_stepped
set_option maxRecDepth 20000 in
theorem gX5_stepsTillSame_X5_stepped : GoodIn wsX5_stepsTillSame (va_wsS RX5 33 yX5_stepped wsX5_stepped) := goodIn_app (goodIn_r _ [1, 2, 3] (by eq_refl) (by decide +kernel)) ggX5_stepsTillSame_X5_stepped
set_option maxRecDepth 20000 in
theorem ggX5_cellDigits_J4_init_da8c8 : GoodIn wsX5_cellDigits wsJ4_init_da8c8 := goodIn_r _ [8, 9, 10, 11, 12, 13, 14, 15, 16, 17, 18, 19, 20, 21, 22, 23, 24, 25, 26, 27, 200, 201, 202, 203] (by eq_refl) gw_wsJ4_init_da8c8
set_option maxRecDepth 20000 in
theorem gX5_cellDigits_J4_init_da8c8 : GoodIn wsX5_cellDigits (wsJ4_init_da8c8) := ggX5_cellDigits_J4_init_da8c8
set_option maxRecDepth 20000 in
theorem ggX5_cellDigits_X0_degreeOf : GoodIn wsX5_cellDigits wsX0_degreeOf := goodIn_r _ [31, 32, 33, 34, 35, 36, 37, 38] (by eq_refl) gw_wsX0_degreeOf
set_option maxRecDepth 20000 in
theorem gX5_cellDigits_X0_degreeOf : GoodIn wsX5_cellDigits (va_wsS RX5 24 yX0_degreeOf wsX0_degreeOf) := goodIn_app (goodIn_r _ [28, 29, 30] (by eq_refl) (by decide +kernel)) ggX5_cellDigits_X0_degreeOf
set_option maxRecDepth 20000 in
theorem ggX5_cellDigits_X0_hasOne : GoodIn wsX5_cellDigits wsX0_hasOne := goodIn_r _ [41] (by eq_refl) gw_wsX0_hasOne
set_option maxRecDepth 20000 in
theorem gX5_cellDigits_X0_hasOne : GoodIn wsX5_cellDigits (va_wsS RX5 40 yX0_hasOne wsX0_hasOne) := goodIn_app (goodIn_r _ [39, 40, 30] (by eq_refl) (by decide +kernel)) ggX5_cellDigits_X0_hasOne
set_option maxRecDepth 20000 in
theorem ggX5_cellDigits_J4_append_cf468 : GoodIn wsX5_cellDigits wsJ4_append_cf468 := goodIn_r _ [45, 46, 47, 48, 49, 11, 50, 51, 18, 52, 53, 54, 55, 56, 19, 57, 58, 59, 60, 61, 62, 63, 64, 65, 66, 67, 68, 69, 70, 71, 72, 73, 74, 75, 76, 77, 78, 79, 80, 81, 82, 83, 84, 17, 85, 86, 87, 88, 89, 90, 91, 92, 93, 94, 95, 96, 16, 97, 98, 99, 100, 101, 102, 103, 104, 105, 20, 21, 22, 23, 24, 25, 26, 27, 106, 107, 108, 109, 110, 111, 112, 113, 114, 115, 116, 117, 118, 119, 120, 121, 122, 123, 124, 125, 126, 127, 128, 129, 130, 131, 132, 133, 134, 135, 136, 137, 138, 139, 140, 141, 142, 143, 144, 200, 201, 202, 203] (by eq_refl) gw_wsJ4_append_cf468
set_option maxRecDepth 20000 in
theorem gX5_cellDigits_J4_append_cf468 : GoodIn wsX5_cellDigits (wsV RX5 44 RJ4 yJ4_append_cf468 wsJ4_append_cf468) := goodIn_app (goodIn_r _ [42, 43, 44, 3] (by eq_refl) (by decide +kernel)) ggX5_cellDigits_J4_append_cf468
set_option maxRecDepth 20000 in
theorem ggX5_cellDigits_J4_toString_0e30d : GoodIn wsX5_cellDigits wsJ4_toString_0e30d := goodIn_r _ [148, 149, 150, 120, 151, 152, 153, 154, 155, 156, 157, 14, 15, 158, 159, 160, 161, 162, 163, 164, 165, 11, 166, 18, 167, 168, 169, 170, 171, 3, 172, 173, 48, 174, 175, 51, 176, 93, 94, 95, 96, 16, 19, 177, 178, 77, 179, 79, 80, 81, 82, 83, 84, 180, 181, 182, 17, 85, 86, 69, 87, 88, 89, 90, 91, 183, 184, 185, 186, 2, 187, 188, 22, 189, 190, 191, 192, 112, 113, 114, 115, 116, 117, 118, 119, 121, 122, 123, 124, 125, 126, 193, 194, 195, 130, 131, 132, 24, 25, 26, 27, 196, 197, 198, 199, 206, 207, 208, 209, 200, 201, 202, 203] (by eq_refl) gw_wsJ4_toString_0e30d
set_option maxRecDepth 20000 in
theorem gX5_cellDigits_J4_toString_0e30d : GoodIn wsX5_cellDigits (wsV RX5 48 RJ4 yJ4_toString_0e30d wsJ4_toString_0e30d) := goodIn_app (goodIn_r _ [145, 146, 147, 3] (by eq_refl) (by decide +kernel)) ggX5_cellDigits_J4_toString_0e30d
set_option maxRecDepth 20000 in
theorem ggX6_isWheel_X0_degreeOf : GoodIn wsX6_isWheel wsX0_degreeOf := goodIn_r _ [4, 5, 6, 7, 8, 9, 10, 11] (by eq_refl) gw_wsX0_degreeOf
set_option maxRecDepth 20000 in
theorem gX6_isWheel_X0_degreeOf : GoodIn wsX6_isWheel (va_wsS RX6 9 yX0_degreeOf wsX0_degreeOf) := goodIn_app (goodIn_r _ [1, 2, 3] (by eq_refl) (by decide +kernel)) ggX6_isWheel_X0_degreeOf
set_option maxRecDepth 20000 in
theorem ggX6_isWheel_X7_isBetween : GoodIn wsX6_isWheel wsX7_isBetween := goodIn_r _ [14] (by eq_refl) gw_wsX7_isBetween
set_option maxRecDepth 20000 in
theorem gX6_isWheel_X7_isBetween_n15 : GoodIn wsX6_isWheel (wsX7_isBetween) := ggX6_isWheel_X7_isBetween
set_option maxRecDepth 20000 in
theorem ggX6_isWheel_X0_hasOne : GoodIn wsX6_isWheel wsX0_hasOne := goodIn_r _ [17] (by eq_refl) gw_wsX0_hasOne
set_option maxRecDepth 20000 in
theorem gX6_isWheel_X0_hasOne : GoodIn wsX6_isWheel (va_wsS RX6 19 yX0_hasOne wsX0_hasOne) := goodIn_app (goodIn_r _ [15, 16, 3] (by eq_refl) (by decide +kernel)) ggX6_isWheel_X0_hasOne
set_option maxRecDepth 20000 in
theorem ggX6_periodByMultiplying_X0_rest : GoodIn wsX6_periodByMultiplying wsX0_rest := goodIn_r _ [4, 5, 6, 3, 7, 8, 9, 10, 11, 12, 13, 14, 15, 16, 17] (by eq_refl) gw_wsX0_rest
set_option maxRecDepth 20000 in
theorem gX6_periodByMultiplying_X0_rest : GoodIn wsX6_periodByMultiplying (va_wsS RX6 23 yX0_rest wsX0_rest) := goodIn_app (goodIn_r _ [1, 2, 3] (by eq_refl) (by decide +kernel)) ggX6_periodByMultiplying_X0_rest
set_option maxRecDepth 20000 in
theorem ggX6_periodBySteps_X5_cellsBegun : GoodIn wsX6_periodBySteps wsX5_cellsBegun := goodIn_r _ [4, 5, 6, 7, 8, 9, 10, 11, 12, 13, 14, 15] (by eq_refl) gw_wsX5_cellsBegun
set_option maxRecDepth 20000 in
theorem gX6_periodBySteps_X5_cellsBegun : GoodIn wsX6_periodBySteps (va_wsS RX6 27 yX5_cellsBegun wsX5_cellsBegun) := goodIn_app (goodIn_r _ [1, 2, 3] (by eq_refl) (by decide +kernel)) ggX6_periodBySteps_X5_cellsBegun
set_option maxRecDepth 20000 in
theorem ggX6_periodBySteps_X5_stepsTillSame : GoodIn wsX6_periodBySteps wsX5_stepsTillSame := goodIn_r _ [18, 19, 20, 3, 21, 22, 23, 7, 24, 9, 10, 11, 12, 13, 14, 15, 5, 6, 8] (by eq_refl) gw_wsX5_stepsTillSame
set_option maxRecDepth 20000 in
theorem gX6_periodBySteps_X5_stepsTillSame : GoodIn wsX6_periodBySteps (va_wsS RX6 33 yX5_stepsTillSame wsX5_stepsTillSame) := goodIn_app (goodIn_r _ [16, 17, 3] (by eq_refl) (by decide +kernel)) ggX6_periodBySteps_X5_stepsTillSame
set_option maxRecDepth 20000 in
theorem ggX6_periodByFactors_X3_at : GoodIn wsX6_periodByFactors wsX3_at := goodIn_r _ [9, 10, 11, 39, 40, 41] (by eq_refl) gw_wsX3_at
set_option maxRecDepth 20000 in
theorem gX6_periodByFactors_X3_at : GoodIn wsX6_periodByFactors (wsV RX6 43 RX3 yX3_at wsX3_at) := goodIn_app (goodIn_r _ [5, 6, 7, 8] (by eq_refl) (by decide +kernel)) ggX6_periodByFactors_X3_at
set_option maxRecDepth 20000 in
theorem ggX6_periodByFactors_X6_periodByMultiplying : GoodIn wsX6_periodByFactors wsX6_periodByMultiplying := goodIn_r _ [15, 16, 17, 18, 19, 20, 21, 22, 23, 24, 25, 26, 27, 28, 29, 30, 31, 32] (by eq_refl) gw_wsX6_periodByMultiplying
set_option maxRecDepth 20000 in
theorem gX6_periodByFactors_X6_periodByMultiplying : GoodIn wsX6_periodByFactors (va_wsS RX6 53 yX6_periodByMultiplying wsX6_periodByMultiplying) := goodIn_app (goodIn_r _ [12, 13, 14] (by eq_refl) (by decide +kernel)) ggX6_periodByFactors_X6_periodByMultiplying
set_option maxRecDepth 20000 in
theorem ggX6_periodByFactors_X6_leastMultiple : GoodIn wsX6_periodByFactors wsX6_leastMultiple := goodIn_r _ [35] (by eq_refl) gw_wsX6_leastMultiple
set_option maxRecDepth 20000 in
theorem gX6_periodByFactors_X6_leastMultiple : GoodIn wsX6_periodByFactors (va_wsS RX6 58 yX6_leastMultiple wsX6_leastMultiple) := goodIn_app (goodIn_r _ [33, 34, 14] (by eq_refl) (by decide +kernel)) ggX6_periodByFactors_X6_leastMultiple
set_option maxRecDepth 20000 in
theorem ggX6_periodByFactors_X6_leastPowerOfTwo : GoodIn wsX6_periodByFactors wsX6_leastPowerOfTwo := goodIn_r _ [38] (by eq_refl) gw_wsX6_leastPowerOfTwo
set_option maxRecDepth 20000 in
theorem gX6_periodByFactors_X6_leastPowerOfTwo : GoodIn wsX6_periodByFactors (va_wsS RX6 61 yX6_leastPowerOfTwo wsX6_leastPowerOfTwo) := goodIn_app (goodIn_r _ [36, 37, 14] (by eq_refl) (by decide +kernel)) ggX6_periodByFactors_X6_leastPowerOfTwo
set_option maxRecDepth 20000 in
theorem ggX7_init_X3_init : GoodIn wsX7_init wsX3_init := goodIn_r _ [29, 30, 2, 3, 4, 31, 32, 33, 61, 62, 63] (by eq_refl) gw_wsX3_init
set_option maxRecDepth 20000 in
theorem gX7_init_X3_init : GoodIn wsX7_init (wsX3_init) := ggX7_init_X3_init
set_option maxRecDepth 20000 in
theorem ggX7_init_X5_init : GoodIn wsX7_init wsX5_init := goodIn_r _ [36, 37, 2, 3, 38, 39, 40, 64, 65] (by eq_refl) gw_wsX5_init
set_option maxRecDepth 20000 in
theorem gX7_init_X5_init : GoodIn wsX7_init (wsX5_init) := ggX7_init_X5_init
set_option maxRecDepth 20000 in
theorem ggX7_init_X4_init : GoodIn wsX7_init wsX4_init := goodIn_r _ [42, 43, 2, 3] (by eq_refl) gw_wsX4_init
set_option maxRecDepth 20000 in
theorem gX7_init_X4_init_n29 : GoodIn wsX7_init (wsX4_init) := ggX7_init_X4_init
set_option maxRecDepth 20000 in
theorem ggX7_init_X1_init : GoodIn wsX7_init wsX1_init := goodIn_r _ [46, 47, 2, 3, 48, 7, 8, 49, 50, 28, 29, 30, 4, 31, 32, 33, 61, 62, 63, 72] (by eq_refl) gw_wsX1_init
set_option maxRecDepth 20000 in
theorem gX7_init_X1_init : GoodIn wsX7_init (wsX1_init) := ggX7_init_X1_init
set_option maxRecDepth 20000 in
theorem ggX7_set_X7_testForm : GoodIn wsX7_set wsX7_testForm := goodIn_ca (goodIn_r _ [6, 7, 8, 9, 10, 5, 11] (by eq_refl) (by decide +kernel)) (goodIn_sub (fun _ h => List.mem_cons_of_mem _ (List.mem_append_left _ (List.mem_append_right _ h))) (by decide +kernel))
set_option maxRecDepth 20000 in
theorem gX7_set_X7_testForm : GoodIn wsX7_set (va_wsS RX7 57 yX7_testForm wsX7_testForm) := goodIn_app (goodIn_r _ [3, 4, 5] (by eq_refl) (by decide +kernel)) ggX7_set_X7_testForm
set_option maxRecDepth 20000 in
theorem ggX7_set_X7_testRange : GoodIn wsX7_set wsX7_testRange := goodIn_ca (goodIn_r _ [14, 15, 16, 9, 10, 5, 11] (by eq_refl) (by decide +kernel)) (goodIn_sub (fun _ h => List.mem_cons_of_mem _ (List.mem_append_right _ h)) (by decide +kernel))
set_option maxRecDepth 20000 in
theorem gX7_set_X7_testRange : GoodIn wsX7_set (va_wsS RX7 62 yX7_testRange wsX7_testRange) := goodIn_app (goodIn_r _ [12, 13, 5] (by eq_refl) (by decide +kernel)) ggX7_set_X7_testRange
set_option maxRecDepth 20000 in
theorem ggX7_set_X0_degreeOf : GoodIn wsX7_set wsX0_degreeOf := goodIn_r _ [20, 21, 22, 23, 24, 25, 26, 27] (by eq_refl) gw_wsX0_degreeOf
set_option maxRecDepth 20000 in
theorem gX7_set_X0_degreeOf : GoodIn wsX7_set (va_wsS RX7 66 yX0_degreeOf wsX0_degreeOf) := goodIn_app (goodIn_r _ [17, 18, 19] (by eq_refl) (by decide +kernel)) ggX7_set_X0_degreeOf
set_option maxRecDepth 20000 in
theorem ggX7_set_X7_done : GoodIn wsX7_set wsX7_done := goodIn_r _ [31, 32, 33, 34, 35, 36, 37, 38, 39, 40, 41, 42] (by eq_refl) gw_wsX7_done
set_option maxRecDepth 20000 in
theorem gX7_set_X7_done : GoodIn wsX7_set (wsV RX7 72 RX7 yX7_done wsX7_done) := goodIn_app (goodIn_r _ [28, 29, 30, 5] (by eq_refl) (by decide +kernel)) ggX7_set_X7_done
set_option maxRecDepth 20000 in
theorem ggX7_digit_X7_testForm : GoodIn wsX7_digit wsX7_testForm := goodIn_ca (goodIn_r _ [5, 6, 7, 8, 9, 4, 10] (by eq_refl) (by decide +kernel)) (goodIn_sub (fun _ h => List.mem_cons_of_mem _ (List.mem_append_left _ (List.mem_append_right _ h))) (by decide +kernel))
set_option maxRecDepth 20000 in
theorem gX7_digit_X7_testForm : GoodIn wsX7_digit (va_wsS RX7 57 yX7_testForm wsX7_testForm) := goodIn_app (goodIn_r _ [2, 3, 4] (by eq_refl) (by decide +kernel)) ggX7_digit_X7_testForm
set_option maxRecDepth 20000 in
theorem ggX7_digit_X7_testPlace : GoodIn wsX7_digit wsX7_testPlace := goodIn_ca (goodIn_r _ [13, 6, 7, 8, 9, 4, 10] (by eq_refl) (by decide +kernel)) (goodIn_sub (fun _ h => List.mem_cons_of_mem _ (List.mem_append_left _ (List.mem_append_right _ h))) (by decide +kernel))
set_option maxRecDepth 20000 in
theorem gX7_digit_X7_testPlace : GoodIn wsX7_digit (va_wsS RX7 76 yX7_testPlace wsX7_testPlace) := goodIn_app (goodIn_r _ [11, 12, 4] (by eq_refl) (by decide +kernel)) ggX7_digit_X7_testPlace
set_option maxRecDepth 20000 in
theorem ggX7_digit_X7_testRange : GoodIn wsX7_digit wsX7_testRange := goodIn_ca (goodIn_r _ [16, 17, 18, 8, 9, 4, 10] (by eq_refl) (by decide +kernel)) (goodIn_sub (fun _ h => List.mem_cons_of_mem _ (List.mem_append_right _ h)) (by decide +kernel))
set_option maxRecDepth 20000 in
theorem gX7_digit_X7_testRange : GoodIn wsX7_digit (va_wsS RX7 62 yX7_testRange wsX7_testRange) := goodIn_app (goodIn_r _ [14, 15, 4] (by eq_refl) (by decide +kernel)) ggX7_digit_X7_testRange
set_option maxRecDepth 20000 in
theorem ggX7_digit_X0_hasOne : GoodIn wsX7_digit wsX0_hasOne := goodIn_r _ [22] (by eq_refl) gw_wsX0_hasOne
set_option maxRecDepth 20000 in
theorem gX7_digit_X0_hasOne : GoodIn wsX7_digit (va_wsS RX7 79 yX0_hasOne wsX0_hasOne) := goodIn_app (goodIn_r _ [19, 20, 21] (by eq_refl) (by decide +kernel)) ggX7_digit_X0_hasOne
set_option maxRecDepth 20000 in
theorem ggX7_digit_X7_done : GoodIn wsX7_digit wsX7_done := goodIn_r _ [26, 27, 28, 29, 30, 31, 32, 33, 34, 35, 36, 37] (by eq_refl) gw_wsX7_done
set_option maxRecDepth 20000 in
theorem gX7_digit_X7_done : GoodIn wsX7_digit (wsV RX7 72 RX7 yX7_done wsX7_done) := goodIn_app (goodIn_r _ [23, 24, 25, 4] (by eq_refl) (by decide +kernel)) ggX7_digit_X7_done
set_option maxRecDepth 20000 in
theorem ggX7_run_X7_testForm : GoodIn wsX7_run wsX7_testForm := goodIn_ca (goodIn_r _ [5, 6, 7, 8, 9, 4, 10] (by eq_refl) (by decide +kernel)) (goodIn_sub (fun _ h => List.mem_cons_of_mem _ (List.mem_append_left _ (List.mem_append_right _ h))) (by decide +kernel))
set_option maxRecDepth 20000 in
theorem gX7_run_X7_testForm : GoodIn wsX7_run (va_wsS RX7 57 yX7_testForm wsX7_testForm) := goodIn_app (goodIn_r _ [2, 3, 4] (by eq_refl) (by decide +kernel)) ggX7_run_X7_testForm
set_option maxRecDepth 20000 in
theorem ggX7_run_X7_testRange : GoodIn wsX7_run wsX7_testRange := goodIn_ca (goodIn_r _ [13, 14, 15, 8, 9, 4, 10] (by eq_refl) (by decide +kernel)) (goodIn_sub (fun _ h => List.mem_cons_of_mem _ (List.mem_append_right _ h)) (by decide +kernel))
set_option maxRecDepth 20000 in
theorem gX7_run_X7_testRange : GoodIn wsX7_run (va_wsS RX7 62 yX7_testRange wsX7_testRange) := goodIn_app (goodIn_r _ [11, 12, 4] (by eq_refl) (by decide +kernel)) ggX7_run_X7_testRange
set_option maxRecDepth 20000 in
theorem ggX7_run_X0_onesOf : GoodIn wsX7_run wsX0_onesOf := goodIn_r _ [19, 20, 21, 22, 23, 24, 25, 26] (by eq_refl) gw_wsX0_onesOf
set_option maxRecDepth 20000 in
theorem gX7_run_X0_onesOf : GoodIn wsX7_run (va_wsS RX7 83 yX0_onesOf wsX0_onesOf) := goodIn_app (goodIn_r _ [16, 17, 18] (by eq_refl) (by decide +kernel)) ggX7_run_X0_onesOf
set_option maxRecDepth 20000 in
theorem ggX7_run_X7_done : GoodIn wsX7_run wsX7_done := goodIn_r _ [30, 31, 32, 33, 34, 35, 36, 37, 38, 39, 40, 41] (by eq_refl) gw_wsX7_done
set_option maxRecDepth 20000 in
theorem gX7_run_X7_done : GoodIn wsX7_run (wsV RX7 72 RX7 yX7_done wsX7_done) := goodIn_app (goodIn_r _ [27, 28, 29, 4] (by eq_refl) (by decide +kernel)) ggX7_run_X7_done
set_option maxRecDepth 20000 in
theorem ggX7_copy_X7_testForm : GoodIn wsX7_copy wsX7_testForm := goodIn_ca (goodIn_r _ [5, 6, 7, 8, 9, 4, 10] (by eq_refl) (by decide +kernel)) (goodIn_sub (fun _ h => List.mem_cons_of_mem _ (List.mem_append_right _ h)) (by decide +kernel))
set_option maxRecDepth 20000 in
theorem gX7_copy_X7_testForm : GoodIn wsX7_copy (va_wsS RX7 57 yX7_testForm wsX7_testForm) := goodIn_app (goodIn_r _ [2, 3, 4] (by eq_refl) (by decide +kernel)) ggX7_copy_X7_testForm
set_option maxRecDepth 20000 in
theorem ggX7_copy_X7_become : GoodIn wsX7_copy wsX7_become := goodIn_r _ [14, 1, 15, 16, 17, 18, 19, 20, 21, 22, 23, 24, 25, 26, 27, 28, 4, 29, 30, 31, 32, 33, 34, 35, 36, 37, 38, 39, 40] (by eq_refl) gw_wsX7_become
set_option maxRecDepth 20000 in
theorem gX7_copy_X7_become : GoodIn wsX7_copy (wsV RX7 86 RX7 yX7_become wsX7_become) := goodIn_app (goodIn_r _ [11, 12, 13, 4] (by eq_refl) (by decide +kernel)) ggX7_copy_X7_become
set_option maxRecDepth 20000 in
theorem ggX7_swap_X7_testForm : GoodIn wsX7_swap wsX7_testForm := goodIn_ca (goodIn_r _ [5, 6, 7, 8, 9, 4, 10] (by eq_refl) (by decide +kernel)) (goodIn_sub (fun _ h => List.mem_cons_of_mem _ (List.mem_append_right _ h)) (by decide +kernel))
set_option maxRecDepth 20000 in
theorem gX7_swap_X7_testForm : GoodIn wsX7_swap (va_wsS RX7 57 yX7_testForm wsX7_testForm) := goodIn_app (goodIn_r _ [2, 3, 4] (by eq_refl) (by decide +kernel)) ggX7_swap_X7_testForm
set_option maxRecDepth 20000 in
theorem ggX7_swap_X7_done : GoodIn wsX7_swap wsX7_done := goodIn_r _ [14, 15, 16, 17, 18, 19, 20, 21, 22, 23, 24, 25] (by eq_refl) gw_wsX7_done
set_option maxRecDepth 20000 in
theorem gX7_swap_X7_done : GoodIn wsX7_swap (wsV RX7 72 RX7 yX7_done wsX7_done) := goodIn_app (goodIn_r _ [11, 12, 13, 4] (by eq_refl) (by decide +kernel)) ggX7_swap_X7_done
set_option maxRecDepth 20000 in
theorem ggX7_shift_X7_testForm : GoodIn wsX7_shift wsX7_testForm := goodIn_ca (goodIn_r _ [5, 6, 7, 8, 9, 4, 10] (by eq_refl) (by decide +kernel)) (goodIn_sub (fun _ h => List.mem_cons_of_mem _ (List.mem_append_left _ (List.mem_append_right _ h))) (by decide +kernel))
set_option maxRecDepth 20000 in
theorem gX7_shift_X7_testForm : GoodIn wsX7_shift (va_wsS RX7 57 yX7_testForm wsX7_testForm) := goodIn_app (goodIn_r _ [2, 3, 4] (by eq_refl) (by decide +kernel)) ggX7_shift_X7_testForm
set_option maxRecDepth 20000 in
theorem ggX7_shift_X7_testRange : GoodIn wsX7_shift wsX7_testRange := goodIn_ca (goodIn_r _ [13, 14, 15, 8, 9, 4, 10] (by eq_refl) (by decide +kernel)) (goodIn_sub (fun _ h => List.mem_cons_of_mem _ (List.mem_append_right _ h)) (by decide +kernel))
set_option maxRecDepth 20000 in
theorem gX7_shift_X7_testRange : GoodIn wsX7_shift (va_wsS RX7 62 yX7_testRange wsX7_testRange) := goodIn_app (goodIn_r _ [11, 12, 4] (by eq_refl) (by decide +kernel)) ggX7_shift_X7_testRange
set_option maxRecDepth 20000 in
theorem ggX7_shift_X7_become : GoodIn wsX7_shift wsX7_become := goodIn_r _ [19, 1, 20, 21, 22, 23, 24, 25, 26, 27, 28, 29, 30, 31, 32, 33, 4, 34, 35, 41, 42, 43, 44, 45, 46, 47, 48, 49, 50] (by eq_refl) gw_wsX7_become
set_option maxRecDepth 20000 in
theorem gX7_shift_X7_become : GoodIn wsX7_shift (wsV RX7 86 RX7 yX7_become wsX7_become) := goodIn_app (goodIn_r _ [16, 17, 18, 4] (by eq_refl) (by decide +kernel)) ggX7_shift_X7_become
set_option maxRecDepth 20000 in
theorem ggX7_shift_X0_degreeOf : GoodIn wsX7_shift wsX0_degreeOf := goodIn_r _ [23, 24, 25, 26, 27, 28, 29, 30] (by eq_refl) gw_wsX0_degreeOf
set_option maxRecDepth 20000 in
theorem gX7_shift_X0_degreeOf : GoodIn wsX7_shift (va_wsS RX7 66 yX0_degreeOf wsX0_degreeOf) := goodIn_app (goodIn_r _ [20, 21, 22] (by eq_refl) (by decide +kernel)) ggX7_shift_X0_degreeOf
set_option maxRecDepth 20000 in
theorem ggX7_shift_X7_refuse : GoodIn wsX7_shift wsX7_refuse := goodIn_r _ [39, 40, 41, 42, 43, 44, 45, 46, 47, 48, 49, 50] (by eq_refl) gw_wsX7_refuse
set_option maxRecDepth 20000 in
theorem gX7_shift_X7_refuse : GoodIn wsX7_shift (wsV RX7 90 RX7 yX7_refuse wsX7_refuse) := goodIn_app (goodIn_r _ [36, 37, 38, 4] (by eq_refl) (by decide +kernel)) ggX7_shift_X7_refuse
set_option maxRecDepth 20000 in
theorem ggX7_turn_X7_testForm : GoodIn wsX7_turn wsX7_testForm := goodIn_ca (goodIn_r _ [5, 6, 7, 8, 9, 4, 10] (by eq_refl) (by decide +kernel)) (goodIn_sub (fun _ h => List.mem_cons_of_mem _ (List.mem_append_right _ h)) (by decide +kernel))
set_option maxRecDepth 20000 in
theorem gX7_turn_X7_testForm : GoodIn wsX7_turn (va_wsS RX7 57 yX7_testForm wsX7_testForm) := goodIn_app (goodIn_r _ [2, 3, 4] (by eq_refl) (by decide +kernel)) ggX7_turn_X7_testForm
set_option maxRecDepth 20000 in
theorem ggX7_turn_X0_turned : GoodIn wsX7_turn wsX0_turned := goodIn_r _ [14, 15, 16, 13, 17, 18, 19, 20, 21, 22, 23, 24] (by eq_refl) gw_wsX0_turned
set_option maxRecDepth 20000 in
theorem gX7_turn_X0_turned : GoodIn wsX7_turn (va_wsS RX7 94 yX0_turned wsX0_turned) := goodIn_app (goodIn_r _ [11, 12, 13] (by eq_refl) (by decide +kernel)) ggX7_turn_X0_turned
set_option maxRecDepth 20000 in
theorem ggX7_turn_X7_become : GoodIn wsX7_turn wsX7_become := goodIn_r _ [28, 1, 29, 16, 13, 17, 18, 19, 20, 21, 22, 23, 24, 30, 31, 32, 4, 33, 34, 35, 36, 37, 38, 39, 40, 41, 42, 43, 44] (by eq_refl) gw_wsX7_become
set_option maxRecDepth 20000 in
theorem gX7_turn_X7_become : GoodIn wsX7_turn (wsV RX7 86 RX7 yX7_become wsX7_become) := goodIn_app (goodIn_r _ [25, 26, 27, 4] (by eq_refl) (by decide +kernel)) ggX7_turn_X7_become
set_option maxRecDepth 20000 in
theorem ggX7_slope_X7_testForm : GoodIn wsX7_slope wsX7_testForm := goodIn_ca (goodIn_r _ [6, 7, 8, 9, 10, 5, 11] (by eq_refl) (by decide +kernel)) (goodIn_sub (fun _ h => List.mem_cons_of_mem _ (List.mem_append_right _ h)) (by decide +kernel))
set_option maxRecDepth 20000 in
theorem gX7_slope_X7_testForm : GoodIn wsX7_slope (va_wsS RX7 57 yX7_testForm wsX7_testForm) := goodIn_app (goodIn_r _ [3, 4, 5] (by eq_refl) (by decide +kernel)) ggX7_slope_X7_testForm
set_option maxRecDepth 20000 in
theorem ggX7_slope_X7_become : GoodIn wsX7_slope wsX7_become := goodIn_r _ [15, 1, 16, 17, 18, 19, 20, 21, 22, 23, 24, 25, 26, 27, 28, 29, 5, 30, 31, 32, 33, 34, 35, 36, 37, 38, 39, 40, 41] (by eq_refl) gw_wsX7_become
set_option maxRecDepth 20000 in
theorem gX7_slope_X7_become : GoodIn wsX7_slope (wsV RX7 86 RX7 yX7_become wsX7_become) := goodIn_app (goodIn_r _ [12, 13, 14, 5] (by eq_refl) (by decide +kernel)) ggX7_slope_X7_become
set_option maxRecDepth 20000 in
theorem ggX7_add_X7_testForms : GoodIn wsX7_add wsX7_testForms := goodIn_ca (goodIn_r _ [5, 6, 7, 4, 8, 9, 10, 11, 12, 13] (by eq_refl) (by decide +kernel)) (goodIn_sub (fun _ h => List.mem_cons_of_mem _ (List.mem_append_right _ h)) (by decide +kernel))
set_option maxRecDepth 20000 in
theorem gX7_add_X7_testForms : GoodIn wsX7_add (va_wsS RX7 100 yX7_testForms wsX7_testForms) := goodIn_app (goodIn_r _ [2, 3, 4] (by eq_refl) (by decide +kernel)) ggX7_add_X7_testForms
set_option maxRecDepth 20000 in
theorem ggX7_add_X7_become : GoodIn wsX7_add wsX7_become := goodIn_r _ [17, 1, 18, 19, 20, 21, 22, 23, 24, 25, 26, 27, 28, 29, 30, 31, 4, 32, 33, 34, 35, 36, 37, 38, 39, 40, 41, 42, 43] (by eq_refl) gw_wsX7_become
set_option maxRecDepth 20000 in
theorem gX7_add_X7_become : GoodIn wsX7_add (wsV RX7 86 RX7 yX7_become wsX7_become) := goodIn_app (goodIn_r _ [14, 15, 16, 4] (by eq_refl) (by decide +kernel)) ggX7_add_X7_become
set_option maxRecDepth 20000 in
theorem ggX7_multiply_X7_testForms : GoodIn wsX7_multiply wsX7_testForms := goodIn_ca (goodIn_r _ [5, 6, 7, 4, 8, 9, 10, 11, 12, 13] (by eq_refl) (by decide +kernel)) (goodIn_sub (fun _ h => List.mem_cons_of_mem _ (List.mem_append_right _ h)) (by decide +kernel))
set_option maxRecDepth 20000 in
theorem gX7_multiply_X7_testForms : GoodIn wsX7_multiply (va_wsS RX7 100 yX7_testForms wsX7_testForms) := goodIn_app (goodIn_r _ [2, 3, 4] (by eq_refl) (by decide +kernel)) ggX7_multiply_X7_testForms
set_option maxRecDepth 20000 in
theorem ggX7_multiply_X0_haveProduct : GoodIn wsX7_multiply wsX0_haveProduct := goodIn_r _ [17, 18, 19, 16, 20, 21, 22, 23, 24, 25, 26, 27] (by eq_refl) gw_wsX0_haveProduct
set_option maxRecDepth 20000 in
theorem gX7_multiply_X0_haveProduct : GoodIn wsX7_multiply (va_wsS RX7 103 yX0_haveProduct wsX0_haveProduct) := goodIn_app (goodIn_r _ [14, 15, 16] (by eq_refl) (by decide +kernel)) ggX7_multiply_X0_haveProduct
set_option maxRecDepth 20000 in
theorem ggX7_multiply_X7_refuse : GoodIn wsX7_multiply wsX7_refuse := goodIn_r _ [31, 32, 49, 50, 51, 52, 53, 54, 55, 56, 57, 58] (by eq_refl) gw_wsX7_refuse
set_option maxRecDepth 20000 in
theorem gX7_multiply_X7_refuse : GoodIn wsX7_multiply (wsV RX7 90 RX7 yX7_refuse wsX7_refuse) := goodIn_app (goodIn_r _ [28, 29, 30, 4] (by eq_refl) (by decide +kernel)) ggX7_multiply_X7_refuse
set_option maxRecDepth 20000 in
theorem ggX7_multiply_X0_multiplied : GoodIn wsX7_multiply wsX0_multiplied := goodIn_r _ [35, 18, 19, 16, 20, 21, 22, 23, 24, 25, 26, 27, 36, 37, 38] (by eq_refl) gw_wsX0_multiplied
set_option maxRecDepth 20000 in
theorem gX7_multiply_X0_multiplied : GoodIn wsX7_multiply (va_wsS RX7 107 yX0_multiplied wsX0_multiplied) := goodIn_app (goodIn_r _ [33, 34, 16] (by eq_refl) (by decide +kernel)) ggX7_multiply_X0_multiplied
set_option maxRecDepth 20000 in
theorem ggX7_multiply_X7_become : GoodIn wsX7_multiply wsX7_become := goodIn_r _ [42, 1, 43, 19, 16, 20, 21, 22, 23, 24, 25, 26, 27, 44, 45, 46, 4, 47, 48, 49, 50, 51, 52, 53, 54, 55, 56, 57, 58] (by eq_refl) gw_wsX7_become
set_option maxRecDepth 20000 in
theorem gX7_multiply_X7_become : GoodIn wsX7_multiply (wsV RX7 86 RX7 yX7_become wsX7_become) := goodIn_app (goodIn_r _ [39, 40, 41, 4] (by eq_refl) (by decide +kernel)) ggX7_multiply_X7_become
set_option maxRecDepth 20000 in
theorem ggX7_square_X7_testForm : GoodIn wsX7_square wsX7_testForm := goodIn_ca (goodIn_r _ [5, 6, 7, 8, 9, 4, 10] (by eq_refl) (by decide +kernel)) (goodIn_sub (fun _ h => List.mem_cons_of_mem _ (List.mem_append_right _ h)) (by decide +kernel))
set_option maxRecDepth 20000 in
theorem gX7_square_X7_testForm : GoodIn wsX7_square (va_wsS RX7 57 yX7_testForm wsX7_testForm) := goodIn_app (goodIn_r _ [2, 3, 4] (by eq_refl) (by decide +kernel)) ggX7_square_X7_testForm
set_option maxRecDepth 20000 in
theorem ggX7_square_X0_degreeOf : GoodIn wsX7_square wsX0_degreeOf := goodIn_r _ [14, 15, 16, 17, 18, 19, 20, 21] (by eq_refl) gw_wsX0_degreeOf
set_option maxRecDepth 20000 in
theorem gX7_square_X0_degreeOf : GoodIn wsX7_square (va_wsS RX7 66 yX0_degreeOf wsX0_degreeOf) := goodIn_app (goodIn_r _ [11, 12, 13] (by eq_refl) (by decide +kernel)) ggX7_square_X0_degreeOf
set_option maxRecDepth 20000 in
theorem ggX7_square_X7_refuse : GoodIn wsX7_square wsX7_refuse := goodIn_r _ [25, 26, 40, 41, 42, 43, 44, 45, 46, 47, 48, 49] (by eq_refl) gw_wsX7_refuse
set_option maxRecDepth 20000 in
theorem gX7_square_X7_refuse : GoodIn wsX7_square (wsV RX7 90 RX7 yX7_refuse wsX7_refuse) := goodIn_app (goodIn_r _ [22, 23, 24, 4] (by eq_refl) (by decide +kernel)) ggX7_square_X7_refuse
set_option maxRecDepth 20000 in
theorem ggX7_square_X0_squared : GoodIn wsX7_square wsX0_squared := goodIn_r _ [29, 30, 12, 13, 14, 15, 16, 17, 18, 19, 20, 21] (by eq_refl) gw_wsX0_squared
set_option maxRecDepth 20000 in
theorem gX7_square_X0_squared : GoodIn wsX7_square (va_wsS RX7 111 yX0_squared wsX0_squared) := goodIn_app (goodIn_r _ [27, 28, 13] (by eq_refl) (by decide +kernel)) ggX7_square_X0_squared
set_option maxRecDepth 20000 in
theorem ggX7_square_X7_become : GoodIn wsX7_square wsX7_become := goodIn_r _ [34, 1, 11, 12, 13, 14, 15, 16, 17, 18, 19, 20, 21, 35, 36, 37, 4, 38, 39, 40, 41, 42, 43, 44, 45, 46, 47, 48, 49] (by eq_refl) gw_wsX7_become
set_option maxRecDepth 20000 in
theorem gX7_square_X7_become : GoodIn wsX7_square (wsV RX7 86 RX7 yX7_become wsX7_become) := goodIn_app (goodIn_r _ [31, 32, 33, 4] (by eq_refl) (by decide +kernel)) ggX7_square_X7_become
set_option maxRecDepth 20000 in
theorem ggX7_divide_X7_testForms : GoodIn wsX7_divide wsX7_testForms := goodIn_ca (goodIn_r _ [5, 6, 7, 4, 8, 9, 10, 11, 12, 13] (by eq_refl) (by decide +kernel)) (goodIn_sub (fun _ h => List.mem_cons_of_mem _ (List.mem_append_right _ h)) (by decide +kernel))
set_option maxRecDepth 20000 in
theorem gX7_divide_X7_testForms : GoodIn wsX7_divide (va_wsS RX7 100 yX7_testForms wsX7_testForms) := goodIn_app (goodIn_r _ [2, 3, 4] (by eq_refl) (by decide +kernel)) ggX7_divide_X7_testForms
set_option maxRecDepth 20000 in
theorem ggX7_divide_X7_refuse : GoodIn wsX7_divide wsX7_refuse := goodIn_r _ [17, 18, 46, 47, 48, 49, 50, 51, 52, 53, 54, 55] (by eq_refl) gw_wsX7_refuse
set_option maxRecDepth 20000 in
theorem gX7_divide_X7_refuse : GoodIn wsX7_divide (wsV RX7 90 RX7 yX7_refuse wsX7_refuse) := goodIn_app (goodIn_r _ [14, 15, 16, 4] (by eq_refl) (by decide +kernel)) ggX7_divide_X7_refuse
set_option maxRecDepth 20000 in
theorem ggX7_divide_X0_quotient : GoodIn wsX7_divide wsX0_quotient := goodIn_r _ [22, 23, 24, 21, 25, 26, 27, 28, 29, 30, 31, 32, 33, 34, 35] (by eq_refl) gw_wsX0_quotient
set_option maxRecDepth 20000 in
theorem gX7_divide_X0_quotient : GoodIn wsX7_divide (va_wsS RX7 114 yX0_quotient wsX0_quotient) := goodIn_app (goodIn_r _ [19, 20, 21] (by eq_refl) (by decide +kernel)) ggX7_divide_X0_quotient
set_option maxRecDepth 20000 in
theorem ggX7_divide_X7_become : GoodIn wsX7_divide wsX7_become := goodIn_r _ [39, 1, 40, 24, 21, 25, 26, 27, 28, 29, 30, 31, 32, 41, 42, 43, 4, 44, 45, 46, 47, 48, 49, 50, 51, 52, 53, 54, 55] (by eq_refl) gw_wsX7_become
set_option maxRecDepth 20000 in
theorem gX7_divide_X7_become : GoodIn wsX7_divide (wsV RX7 86 RX7 yX7_become wsX7_become) := goodIn_app (goodIn_r _ [36, 37, 38, 4] (by eq_refl) (by decide +kernel)) ggX7_divide_X7_become
set_option maxRecDepth 20000 in
theorem ggX7_remain_X7_testForms : GoodIn wsX7_remain wsX7_testForms := goodIn_ca (goodIn_r _ [5, 6, 7, 4, 8, 9, 10, 11, 12, 13] (by eq_refl) (by decide +kernel)) (goodIn_sub (fun _ h => List.mem_cons_of_mem _ (List.mem_append_right _ h)) (by decide +kernel))
set_option maxRecDepth 20000 in
theorem gX7_remain_X7_testForms : GoodIn wsX7_remain (va_wsS RX7 100 yX7_testForms wsX7_testForms) := goodIn_app (goodIn_r _ [2, 3, 4] (by eq_refl) (by decide +kernel)) ggX7_remain_X7_testForms
set_option maxRecDepth 20000 in
theorem ggX7_remain_X7_refuse : GoodIn wsX7_remain wsX7_refuse := goodIn_r _ [17, 18, 46, 47, 48, 49, 50, 51, 52, 53, 54, 55] (by eq_refl) gw_wsX7_refuse
set_option maxRecDepth 20000 in
theorem gX7_remain_X7_refuse : GoodIn wsX7_remain (wsV RX7 90 RX7 yX7_refuse wsX7_refuse) := goodIn_app (goodIn_r _ [14, 15, 16, 4] (by eq_refl) (by decide +kernel)) ggX7_remain_X7_refuse
set_option maxRecDepth 20000 in
theorem ggX7_remain_X0_rest : GoodIn wsX7_remain wsX0_rest := goodIn_r _ [22, 23, 24, 21, 25, 26, 27, 28, 29, 30, 31, 32, 33, 34, 35] (by eq_refl) gw_wsX0_rest
set_option maxRecDepth 20000 in
theorem gX7_remain_X0_rest : GoodIn wsX7_remain (va_wsS RX7 117 yX0_rest wsX0_rest) := goodIn_app (goodIn_r _ [19, 20, 21] (by eq_refl) (by decide +kernel)) ggX7_remain_X0_rest
set_option maxRecDepth 20000 in
theorem ggX7_remain_X7_become : GoodIn wsX7_remain wsX7_become := goodIn_r _ [39, 1, 40, 24, 21, 25, 26, 27, 28, 29, 30, 31, 32, 41, 42, 43, 4, 44, 45, 46, 47, 48, 49, 50, 51, 52, 53, 54, 55] (by eq_refl) gw_wsX7_become
set_option maxRecDepth 20000 in
theorem gX7_remain_X7_become : GoodIn wsX7_remain (wsV RX7 86 RX7 yX7_become wsX7_become) := goodIn_app (goodIn_r _ [36, 37, 38, 4] (by eq_refl) (by decide +kernel)) ggX7_remain_X7_become
set_option maxRecDepth 20000 in
theorem ggX7_common_X7_testForms : GoodIn wsX7_common wsX7_testForms := goodIn_ca (goodIn_r _ [5, 6, 7, 4, 8, 9, 10, 11, 12, 13] (by eq_refl) (by decide +kernel)) (goodIn_sub (fun _ h => List.mem_cons_of_mem _ (List.mem_append_right _ h)) (by decide +kernel))
set_option maxRecDepth 20000 in
theorem gX7_common_X7_testForms : GoodIn wsX7_common (va_wsS RX7 100 yX7_testForms wsX7_testForms) := goodIn_app (goodIn_r _ [2, 3, 4] (by eq_refl) (by decide +kernel)) ggX7_common_X7_testForms
set_option maxRecDepth 20000 in
theorem ggX7_common_X0_greatestBoth : GoodIn wsX7_common wsX0_greatestBoth := goodIn_r _ [17, 18, 19, 16, 20, 21, 22, 23, 24, 25, 26, 27, 28, 29, 30, 31, 32, 33] (by eq_refl) gw_wsX0_greatestBoth
set_option maxRecDepth 20000 in
theorem gX7_common_X0_greatestBoth : GoodIn wsX7_common (va_wsS RX7 120 yX0_greatestBoth wsX0_greatestBoth) := goodIn_app (goodIn_r _ [14, 15, 16] (by eq_refl) (by decide +kernel)) ggX7_common_X0_greatestBoth
set_option maxRecDepth 20000 in
theorem ggX7_common_X7_become : GoodIn wsX7_common wsX7_become := goodIn_r _ [37, 1, 38, 22, 16, 23, 24, 25, 26, 27, 28, 29, 30, 39, 40, 41, 4, 42, 43, 44, 45, 46, 47, 48, 49, 50, 51, 52, 53] (by eq_refl) gw_wsX7_become
set_option maxRecDepth 20000 in
theorem gX7_common_X7_become : GoodIn wsX7_common (wsV RX7 86 RX7 yX7_become wsX7_become) := goodIn_app (goodIn_r _ [34, 35, 36, 4] (by eq_refl) (by decide +kernel)) ggX7_common_X7_become
set_option maxRecDepth 20000 in
theorem ggX7_multipliers_X7_testForms : GoodIn wsX7_multipliers wsX7_testForms := goodIn_ca (goodIn_r _ [8, 9, 10, 7, 11, 12, 13, 14, 15, 16] (by eq_refl) (by decide +kernel)) (goodIn_sub (fun _ h => List.mem_cons_of_mem _ (List.mem_append_right _ h)) (by decide +kernel))
set_option maxRecDepth 20000 in
theorem gX7_multipliers_X7_testForms : GoodIn wsX7_multipliers (va_wsS RX7 100 yX7_testForms wsX7_testForms) := goodIn_app (goodIn_r _ [5, 6, 7] (by eq_refl) (by decide +kernel)) ggX7_multipliers_X7_testForms
set_option maxRecDepth 20000 in
theorem ggX7_multipliers_X7_testForm : GoodIn wsX7_multipliers wsX7_testForm := goodIn_ca (goodIn_r _ [11, 12, 13, 14, 15, 7, 16] (by eq_refl) (by decide +kernel)) (goodIn_sub (fun _ h => List.mem_cons_of_mem _ (List.mem_append_right _ h)) (by decide +kernel))
set_option maxRecDepth 20000 in
theorem gX7_multipliers_X7_testForm : GoodIn wsX7_multipliers (va_wsS RX7 57 yX7_testForm wsX7_testForm) := goodIn_app (goodIn_r _ [9, 10, 7] (by eq_refl) (by decide +kernel)) ggX7_multipliers_X7_testForm
set_option maxRecDepth 20000 in
theorem ggX7_multipliers_X4_workOut : GoodIn wsX7_multipliers wsX4_workOut := goodIn_r _ [21, 22, 23, 24, 25, 26, 27, 28, 29, 30, 31, 32, 33, 34, 35, 36, 37, 38, 39, 40, 41, 42, 43, 44, 45, 46, 47, 20, 48, 49, 50, 51, 68, 69, 70, 71, 72, 73] (by eq_refl) gw_wsX4_workOut
set_option maxRecDepth 20000 in
theorem gX7_multipliers_X4_workOut : GoodIn wsX7_multipliers (wsV RX7 130 RX4 yX4_workOut wsX4_workOut) := goodIn_app (goodIn_r _ [17, 18, 19, 20] (by eq_refl) (by decide +kernel)) ggX7_multipliers_X4_workOut
set_option maxRecDepth 20000 in
theorem ggX7_multipliers_X0_degreeOf : GoodIn wsX7_multipliers wsX0_degreeOf := goodIn_r _ [34, 35, 36, 37, 38, 39, 40, 41] (by eq_refl) gw_wsX0_degreeOf
set_option maxRecDepth 20000 in
theorem gX7_multipliers_X0_degreeOf : GoodIn wsX7_multipliers (va_wsS RX7 66 yX0_degreeOf wsX0_degreeOf) := goodIn_app (goodIn_r _ [52, 33, 30] (by eq_refl) (by decide +kernel)) ggX7_multipliers_X0_degreeOf
set_option maxRecDepth 20000 in
theorem ggX7_multipliers_X7_done : GoodIn wsX7_multipliers wsX7_done := goodIn_r _ [56, 57, 58, 59, 60, 61, 62, 63, 64, 65, 66, 67] (by eq_refl) gw_wsX7_done
set_option maxRecDepth 20000 in
theorem gX7_multipliers_X7_done : GoodIn wsX7_multipliers (wsV RX7 72 RX7 yX7_done wsX7_done) := goodIn_app (goodIn_r _ [53, 54, 55, 7] (by eq_refl) (by decide +kernel)) ggX7_multipliers_X7_done
set_option maxRecDepth 20000 in
theorem ggX7_power_X7_testForms : GoodIn wsX7_power wsX7_testForms := goodIn_ca (goodIn_r _ [5, 6, 7, 4, 8, 9, 10, 11, 12, 13] (by eq_refl) (by decide +kernel)) (goodIn_sub (fun _ h => List.mem_cons_of_mem _ (List.mem_append_left _ (List.mem_append_right _ h))) (by decide +kernel))
set_option maxRecDepth 20000 in
theorem gX7_power_X7_testForms : GoodIn wsX7_power (va_wsS RX7 100 yX7_testForms wsX7_testForms) := goodIn_app (goodIn_r _ [2, 3, 4] (by eq_refl) (by decide +kernel)) ggX7_power_X7_testForms
set_option maxRecDepth 20000 in
theorem ggX7_power_X7_testRange : GoodIn wsX7_power wsX7_testRange := goodIn_ca (goodIn_r _ [16, 17, 18, 11, 12, 4, 13] (by eq_refl) (by decide +kernel)) (goodIn_sub (fun _ h => List.mem_cons_of_mem _ (List.mem_append_right _ h)) (by decide +kernel))
set_option maxRecDepth 20000 in
theorem gX7_power_X7_testRange : GoodIn wsX7_power (va_wsS RX7 62 yX7_testRange wsX7_testRange) := goodIn_app (goodIn_r _ [14, 15, 4] (by eq_refl) (by decide +kernel)) ggX7_power_X7_testRange
set_option maxRecDepth 20000 in
theorem ggX7_power_X0_degreeOf : GoodIn wsX7_power wsX0_degreeOf := goodIn_r _ [22, 23, 24, 25, 26, 27, 28, 29] (by eq_refl) gw_wsX0_degreeOf
set_option maxRecDepth 20000 in
theorem gX7_power_X0_degreeOf : GoodIn wsX7_power (va_wsS RX7 66 yX0_degreeOf wsX0_degreeOf) := goodIn_app (goodIn_r _ [19, 20, 21] (by eq_refl) (by decide +kernel)) ggX7_power_X0_degreeOf
set_option maxRecDepth 20000 in
theorem ggX7_power_X7_refuse : GoodIn wsX7_power wsX7_refuse := goodIn_r _ [33, 34, 60, 61, 62, 63, 64, 65, 66, 67, 68, 69] (by eq_refl) gw_wsX7_refuse
set_option maxRecDepth 20000 in
theorem gX7_power_X7_refuse : GoodIn wsX7_power (wsV RX7 90 RX7 yX7_refuse wsX7_refuse) := goodIn_app (goodIn_r _ [30, 31, 32, 4] (by eq_refl) (by decide +kernel)) ggX7_power_X7_refuse
set_option maxRecDepth 20000 in
theorem ggX7_power_X0_powerRest : GoodIn wsX7_power wsX0_powerRest := goodIn_r _ [37, 38, 39, 21, 40, 41, 20, 22, 23, 24, 25, 26, 27, 28, 29, 42, 43, 44, 45, 46, 47, 48, 49, 50] (by eq_refl) gw_wsX0_powerRest
set_option maxRecDepth 20000 in
theorem gX7_power_X0_powerRest : GoodIn wsX7_power (va_wsS RX7 144 yX0_powerRest wsX0_powerRest) := goodIn_app (goodIn_r _ [35, 36, 21] (by eq_refl) (by decide +kernel)) ggX7_power_X0_powerRest
set_option maxRecDepth 20000 in
theorem ggX7_power_X7_become : GoodIn wsX7_power wsX7_become := goodIn_r _ [54, 1, 19, 20, 21, 22, 23, 24, 25, 26, 27, 28, 29, 55, 56, 57, 4, 58, 59, 60, 61, 62, 63, 64, 65, 66, 67, 68, 69] (by eq_refl) gw_wsX7_become
set_option maxRecDepth 20000 in
theorem gX7_power_X7_become : GoodIn wsX7_power (wsV RX7 86 RX7 yX7_become wsX7_become) := goodIn_app (goodIn_r _ [51, 52, 53, 4] (by eq_refl) (by decide +kernel)) ggX7_power_X7_become
set_option maxRecDepth 20000 in
theorem ggX7_allPrimes_X7_testForm : GoodIn wsX7_allPrimes wsX7_testForm := goodIn_ca (goodIn_r _ [4, 5, 6, 7, 8, 3, 9] (by eq_refl) (by decide +kernel)) (goodIn_sub (fun _ h => List.mem_cons_of_mem _ (List.mem_append_left _ (List.mem_append_right _ h))) (by decide +kernel))
set_option maxRecDepth 20000 in
theorem gX7_allPrimes_X7_testForm : GoodIn wsX7_allPrimes (va_wsS RX7 57 yX7_testForm wsX7_testForm) := goodIn_app (goodIn_r _ [1, 2, 3] (by eq_refl) (by decide +kernel)) ggX7_allPrimes_X7_testForm
set_option maxRecDepth 20000 in
theorem ggX7_allPrimes_X7_testRange : GoodIn wsX7_allPrimes wsX7_testRange := goodIn_ca (goodIn_r _ [12, 13, 14, 7, 8, 3, 9] (by eq_refl) (by decide +kernel)) (goodIn_sub (fun _ h => List.mem_cons_of_mem _ (List.mem_append_right _ h)) (by decide +kernel))
set_option maxRecDepth 20000 in
theorem gX7_allPrimes_X7_testRange : GoodIn wsX7_allPrimes (va_wsS RX7 62 yX7_testRange wsX7_testRange) := goodIn_app (goodIn_r _ [10, 11, 3] (by eq_refl) (by decide +kernel)) ggX7_allPrimes_X7_testRange
set_option maxRecDepth 20000 in
theorem ggX7_allPrimes_X2_productOfAll : GoodIn wsX7_allPrimes wsX2_productOfAll := goodIn_r _ [18, 19, 20, 17, 21, 22, 23, 24, 25, 26, 27, 28, 29, 30, 31, 32, 33, 34, 35, 36, 37, 38, 39, 40, 41, 42, 43, 44, 45, 46, 47, 48, 49] (by eq_refl) gw_wsX2_productOfAll
set_option maxRecDepth 20000 in
theorem gX7_allPrimes_X2_productOfAll : GoodIn wsX7_allPrimes (va_wsS RX7 148 yX2_productOfAll wsX2_productOfAll) := goodIn_app (goodIn_r _ [15, 16, 17] (by eq_refl) (by decide +kernel)) ggX7_allPrimes_X2_productOfAll
set_option maxRecDepth 20000 in
theorem ggX7_allPrimes_X7_become : GoodIn wsX7_allPrimes wsX7_become := goodIn_r _ [53, 54, 55, 27, 28, 29, 30, 31, 32, 33, 34, 35, 36, 56, 57, 58, 3, 59, 60, 61, 62, 63, 64, 65, 66, 67, 68, 69, 70] (by eq_refl) gw_wsX7_become
set_option maxRecDepth 20000 in
theorem gX7_allPrimes_X7_become : GoodIn wsX7_allPrimes (wsV RX7 86 RX7 yX7_become wsX7_become) := goodIn_app (goodIn_r _ [50, 51, 52, 3] (by eq_refl) (by decide +kernel)) ggX7_allPrimes_X7_become
set_option maxRecDepth 20000 in
theorem ggX7_seal_X7_testForms : GoodIn wsX7_seal wsX7_testForms := goodIn_ca (goodIn_r _ [5, 6, 7, 4, 8, 9, 10, 11, 12, 13] (by eq_refl) (by decide +kernel)) (goodIn_sub (fun _ h => List.mem_cons_of_mem _ (List.mem_append_right _ h)) (by decide +kernel))
set_option maxRecDepth 20000 in
theorem gX7_seal_X7_testForms : GoodIn wsX7_seal (va_wsS RX7 100 yX7_testForms wsX7_testForms) := goodIn_app (goodIn_r _ [2, 3, 4] (by eq_refl) (by decide +kernel)) ggX7_seal_X7_testForms
set_option maxRecDepth 20000 in
theorem ggX7_seal_X0_degreeOf : GoodIn wsX7_seal wsX0_degreeOf := goodIn_r _ [17, 18, 19, 20, 21, 22, 23, 24] (by eq_refl) gw_wsX0_degreeOf
set_option maxRecDepth 20000 in
theorem gX7_seal_X0_degreeOf : GoodIn wsX7_seal (va_wsS RX7 66 yX0_degreeOf wsX0_degreeOf) := goodIn_app (goodIn_r _ [14, 15, 16] (by eq_refl) (by decide +kernel)) ggX7_seal_X0_degreeOf
set_option maxRecDepth 20000 in
theorem ggX7_seal_X7_canBeSealed : GoodIn wsX7_seal wsX7_canBeSealed := goodIn_r _ [28, 1, 14, 15, 16, 17, 18, 19, 20, 21, 22, 23, 24, 52, 53, 54, 55, 56, 57, 58, 59, 60, 61] (by eq_refl) gw_wsX7_canBeSealed
set_option maxRecDepth 20000 in
theorem gX7_seal_X7_canBeSealed : GoodIn wsX7_seal (wsV RX7 154 RX7 yX7_canBeSealed wsX7_canBeSealed) := goodIn_app (goodIn_r _ [25, 26, 27, 4] (by eq_refl) (by decide +kernel)) ggX7_seal_X7_canBeSealed
set_option maxRecDepth 20000 in
theorem ggX7_seal_X7_refuse : GoodIn wsX7_seal wsX7_refuse := goodIn_r _ [32, 33, 52, 53, 54, 55, 56, 57, 58, 59, 60, 61] (by eq_refl) gw_wsX7_refuse
set_option maxRecDepth 20000 in
theorem gX7_seal_X7_refuse : GoodIn wsX7_seal (wsV RX7 90 RX7 yX7_refuse wsX7_refuse) := goodIn_app (goodIn_r _ [29, 30, 31, 4] (by eq_refl) (by decide +kernel)) ggX7_seal_X7_refuse
set_option maxRecDepth 20000 in
theorem ggX7_seal_X0_checkOf : GoodIn wsX7_seal wsX0_checkOf := goodIn_r _ [36, 37, 15, 16, 17, 18, 19, 20, 21, 22, 23, 24, 38, 39, 40, 41, 42, 43] (by eq_refl) gw_wsX0_checkOf
set_option maxRecDepth 20000 in
theorem gX7_seal_X0_checkOf : GoodIn wsX7_seal (va_wsS RX7 158 yX0_checkOf wsX0_checkOf) := goodIn_app (goodIn_r _ [34, 35, 16] (by eq_refl) (by decide +kernel)) ggX7_seal_X0_checkOf
set_option maxRecDepth 20000 in
theorem ggX7_seal_X0_onesOf : GoodIn wsX7_seal wsX0_onesOf := goodIn_r _ [46, 18, 19, 20, 21, 22, 23, 24] (by eq_refl) gw_wsX0_onesOf
set_option maxRecDepth 20000 in
theorem gX7_seal_X0_onesOf : GoodIn wsX7_seal (va_wsS RX7 83 yX0_onesOf wsX0_onesOf) := goodIn_app (goodIn_r _ [44, 45, 16] (by eq_refl) (by decide +kernel)) ggX7_seal_X0_onesOf
set_option maxRecDepth 20000 in
theorem ggX7_seal_X7_done : GoodIn wsX7_seal wsX7_done := goodIn_r _ [50, 51, 52, 53, 54, 55, 56, 57, 58, 59, 60, 61] (by eq_refl) gw_wsX7_done
set_option maxRecDepth 20000 in
theorem gX7_seal_X7_done : GoodIn wsX7_seal (wsV RX7 72 RX7 yX7_done wsX7_done) := goodIn_app (goodIn_r _ [47, 48, 49, 4] (by eq_refl) (by decide +kernel)) ggX7_seal_X7_done
set_option maxRecDepth 20000 in
theorem ggX7_burst_X7_testForm : GoodIn wsX7_burst wsX7_testForm := goodIn_ca (goodIn_r _ [5, 6, 7, 8, 9, 4, 10] (by eq_refl) (by decide +kernel)) (goodIn_sub (fun _ h => List.mem_cons_of_mem _ (List.mem_append_left _ (List.mem_append_right _ h))) (by decide +kernel))
set_option maxRecDepth 20000 in
theorem gX7_burst_X7_testForm : GoodIn wsX7_burst (va_wsS RX7 57 yX7_testForm wsX7_testForm) := goodIn_app (goodIn_r _ [2, 3, 4] (by eq_refl) (by decide +kernel)) ggX7_burst_X7_testForm
set_option maxRecDepth 20000 in
theorem ggX7_burst_X7_testPlace : GoodIn wsX7_burst wsX7_testPlace := goodIn_ca (goodIn_r _ [13, 6, 7, 8, 9, 4, 10] (by eq_refl) (by decide +kernel)) (goodIn_sub (fun _ h => List.mem_cons_of_mem _ (List.mem_append_left _ (List.mem_append_right _ h))) (by decide +kernel))
set_option maxRecDepth 20000 in
theorem gX7_burst_X7_testPlace : GoodIn wsX7_burst (va_wsS RX7 76 yX7_testPlace wsX7_testPlace) := goodIn_app (goodIn_r _ [11, 12, 4] (by eq_refl) (by decide +kernel)) ggX7_burst_X7_testPlace
set_option maxRecDepth 20000 in
theorem ggX7_burst_X7_testRange : GoodIn wsX7_burst wsX7_testRange := goodIn_ca (goodIn_r _ [16, 17, 18, 8, 9, 4, 10] (by eq_refl) (by decide +kernel)) (goodIn_sub (fun _ h => List.mem_cons_of_mem _ (List.mem_append_right _ h)) (by decide +kernel))
set_option maxRecDepth 20000 in
theorem gX7_burst_X7_testRange : GoodIn wsX7_burst (va_wsS RX7 62 yX7_testRange wsX7_testRange) := goodIn_app (goodIn_r _ [14, 15, 4] (by eq_refl) (by decide +kernel)) ggX7_burst_X7_testRange
set_option maxRecDepth 20000 in
theorem ggX7_burst_X0_degreeOf : GoodIn wsX7_burst wsX0_degreeOf := goodIn_r _ [22, 23, 24, 25, 26, 27, 28, 29] (by eq_refl) gw_wsX0_degreeOf
set_option maxRecDepth 20000 in
theorem gX7_burst_X0_degreeOf : GoodIn wsX7_burst (va_wsS RX7 66 yX0_degreeOf wsX0_degreeOf) := goodIn_app (goodIn_r _ [19, 20, 21] (by eq_refl) (by decide +kernel)) ggX7_burst_X0_degreeOf
set_option maxRecDepth 20000 in
theorem ggX7_burst_X7_refuse : GoodIn wsX7_burst wsX7_refuse := goodIn_r _ [33, 34, 43, 44, 45, 46, 47, 48, 49, 50, 51, 52] (by eq_refl) gw_wsX7_refuse
set_option maxRecDepth 20000 in
theorem gX7_burst_X7_refuse : GoodIn wsX7_burst (wsV RX7 90 RX7 yX7_refuse wsX7_refuse) := goodIn_app (goodIn_r _ [30, 31, 32, 4] (by eq_refl) (by decide +kernel)) ggX7_burst_X7_refuse
set_option maxRecDepth 20000 in
theorem ggX7_burst_X0_onesOf : GoodIn wsX7_burst wsX0_onesOf := goodIn_r _ [37, 23, 24, 25, 26, 27, 28, 29] (by eq_refl) gw_wsX0_onesOf
set_option maxRecDepth 20000 in
theorem gX7_burst_X0_onesOf : GoodIn wsX7_burst (va_wsS RX7 83 yX0_onesOf wsX0_onesOf) := goodIn_app (goodIn_r _ [35, 36, 21] (by eq_refl) (by decide +kernel)) ggX7_burst_X0_onesOf
set_option maxRecDepth 20000 in
theorem ggX7_burst_X7_done : GoodIn wsX7_burst wsX7_done := goodIn_r _ [41, 42, 43, 44, 45, 46, 47, 48, 49, 50, 51, 52] (by eq_refl) gw_wsX7_done
set_option maxRecDepth 20000 in
theorem gX7_burst_X7_done : GoodIn wsX7_burst (wsV RX7 72 RX7 yX7_done wsX7_done) := goodIn_app (goodIn_r _ [38, 39, 40, 4] (by eq_refl) (by decide +kernel)) ggX7_burst_X7_done
set_option maxRecDepth 20000 in
theorem ggX7_factor_X7_testForm : GoodIn wsX7_factor wsX7_testForm := goodIn_ca (goodIn_r _ [7, 8, 9, 10, 11, 6, 12] (by eq_refl) (by decide +kernel)) (goodIn_sub (fun _ h => List.mem_cons_of_mem _ (List.mem_append_left _ (List.mem_append_right _ h))) (by decide +kernel))
set_option maxRecDepth 20000 in
theorem gX7_factor_X7_testForm : GoodIn wsX7_factor (va_wsS RX7 57 yX7_testForm wsX7_testForm) := goodIn_app (goodIn_r _ [4, 5, 6] (by eq_refl) (by decide +kernel)) ggX7_factor_X7_testForm
set_option maxRecDepth 20000 in
theorem ggX7_factor_X7_testRange : GoodIn wsX7_factor wsX7_testRange := goodIn_ca (goodIn_r _ [15, 16, 17, 10, 11, 6, 12] (by eq_refl) (by decide +kernel)) (goodIn_sub (fun _ h => List.mem_cons_of_mem _ (List.mem_append_right _ h)) (by decide +kernel))
set_option maxRecDepth 20000 in
theorem gX7_factor_X7_testRange : GoodIn wsX7_factor (va_wsS RX7 62 yX7_testRange wsX7_testRange) := goodIn_app (goodIn_r _ [13, 14, 6] (by eq_refl) (by decide +kernel)) ggX7_factor_X7_testRange
set_option maxRecDepth 20000 in
theorem ggX7_factor_X0_degreeOf : GoodIn wsX7_factor wsX0_degreeOf := goodIn_r _ [21, 22, 23, 24, 25, 26, 27, 28] (by eq_refl) gw_wsX0_degreeOf
set_option maxRecDepth 20000 in
theorem gX7_factor_X0_degreeOf : GoodIn wsX7_factor (va_wsS RX7 66 yX0_degreeOf wsX0_degreeOf) := goodIn_app (goodIn_r _ [18, 19, 20] (by eq_refl) (by decide +kernel)) ggX7_factor_X0_degreeOf
set_option maxRecDepth 20000 in
theorem ggX7_factor_X7_isBetween : GoodIn wsX7_factor wsX7_isBetween := goodIn_r _ [12] (by eq_refl) gw_wsX7_isBetween
set_option maxRecDepth 20000 in
theorem gX7_factor_X7_isBetween : GoodIn wsX7_factor (va_wsS RX7 161 yX7_isBetween wsX7_isBetween) := goodIn_app (goodIn_r _ [10, 11, 6] (by eq_refl) (by decide +kernel)) ggX7_factor_X7_isBetween
set_option maxRecDepth 20000 in
theorem ggX7_factor_X7_refuse : GoodIn wsX7_factor wsX7_refuse := goodIn_r _ [32, 33, 116, 117, 118, 119, 120, 121, 122, 123, 124, 125] (by eq_refl) gw_wsX7_refuse
set_option maxRecDepth 20000 in
theorem gX7_factor_X7_refuse : GoodIn wsX7_factor (wsV RX7 90 RX7 yX7_refuse wsX7_refuse) := goodIn_app (goodIn_r _ [29, 30, 31, 6] (by eq_refl) (by decide +kernel)) ggX7_factor_X7_refuse
set_option maxRecDepth 20000 in
theorem ggX7_factor_X1_findByTrying : GoodIn wsX7_factor wsX1_findByTrying := goodIn_r _ [38, 39, 40, 41, 42, 43, 44, 45, 46, 19, 20, 21, 22, 23, 24, 25, 26, 27, 28, 47, 48, 49, 50, 51, 52, 53, 54, 55, 56, 57, 58, 59, 60, 61, 62, 63, 64, 126, 127, 128] (by eq_refl) gw_wsX1_findByTrying
set_option maxRecDepth 20000 in
theorem gX7_factor_X1_findByTrying : GoodIn wsX7_factor (wsV RX7 165 RX1 yX1_findByTrying wsX1_findByTrying) := goodIn_app (goodIn_r _ [34, 35, 36, 37] (by eq_refl) (by decide +kernel)) ggX7_factor_X1_findByTrying
set_option maxRecDepth 20000 in
theorem ggX7_factor_X1_findByDegrees : GoodIn wsX7_factor wsX1_findByDegrees := goodIn_r _ [68, 39, 69, 40, 41, 42, 43, 44, 45, 46, 19, 20, 21, 22, 23, 24, 25, 26, 27, 28, 70, 71, 72, 73, 50, 51, 52, 53, 54, 55, 56, 74, 75, 76, 77, 78, 79, 80, 81, 82, 37, 83, 57, 58, 59, 60, 61, 84, 85, 86, 87, 88, 89, 90, 91, 92, 93, 94, 62, 63, 64, 95, 96, 97, 47, 48, 49, 129, 126, 127, 128] (by eq_refl) gw_wsX1_findByDegrees
set_option maxRecDepth 20000 in
theorem gX7_factor_X1_findByDegrees : GoodIn wsX7_factor (wsV RX7 169 RX1 yX1_findByDegrees wsX1_findByDegrees) := goodIn_app (goodIn_r _ [65, 66, 67, 37] (by eq_refl) (by decide +kernel)) ggX7_factor_X1_findByDegrees
set_option maxRecDepth 20000 in
theorem ggX7_factor_X3_arrange : GoodIn wsX7_factor wsX3_arrange := goodIn_r _ [101, 61, 102, 103, 104, 105, 106, 45, 107, 108, 109, 43, 110, 126, 127, 128] (by eq_refl) gw_wsX3_arrange
set_option maxRecDepth 20000 in
theorem gX7_factor_X3_arrange : GoodIn wsX7_factor (wsV RX7 172 RX3 yX3_arrange wsX3_arrange) := goodIn_app (goodIn_r _ [98, 99, 100, 43] (by eq_refl) (by decide +kernel)) ggX7_factor_X3_arrange
set_option maxRecDepth 20000 in
theorem ggX7_factor_X7_done : GoodIn wsX7_factor wsX7_done := goodIn_r _ [114, 115, 116, 117, 118, 119, 120, 121, 122, 123, 124, 125] (by eq_refl) gw_wsX7_done
set_option maxRecDepth 20000 in
theorem gX7_factor_X7_done : GoodIn wsX7_factor (wsV RX7 72 RX7 yX7_done wsX7_done) := goodIn_app (goodIn_r _ [111, 112, 113, 6] (by eq_refl) (by decide +kernel)) ggX7_factor_X7_done
set_option maxRecDepth 20000 in
theorem ggX7_enroll_X7_testForm : GoodIn wsX7_enroll wsX7_testForm := goodIn_ca (goodIn_r _ [6, 7, 8, 9, 10, 5, 11] (by eq_refl) (by decide +kernel)) (goodIn_sub (fun _ h => List.mem_cons_of_mem _ (List.mem_append_right _ h)) (by decide +kernel))
set_option maxRecDepth 20000 in
theorem gX7_enroll_X7_testForm : GoodIn wsX7_enroll (va_wsS RX7 57 yX7_testForm wsX7_testForm) := goodIn_app (goodIn_r _ [3, 4, 5] (by eq_refl) (by decide +kernel)) ggX7_enroll_X7_testForm
set_option maxRecDepth 20000 in
theorem ggX7_enroll_X7_refuse : GoodIn wsX7_enroll wsX7_refuse := goodIn_r _ [15, 16, 29, 30, 31, 32, 33, 34, 35, 36, 37, 38] (by eq_refl) gw_wsX7_refuse
set_option maxRecDepth 20000 in
theorem gX7_enroll_X7_refuse : GoodIn wsX7_enroll (wsV RX7 90 RX7 yX7_refuse wsX7_refuse) := goodIn_app (goodIn_r _ [12, 13, 14, 5] (by eq_refl) (by decide +kernel)) ggX7_enroll_X7_refuse
set_option maxRecDepth 20000 in
theorem ggX7_enroll_X3_append : GoodIn wsX7_enroll wsX3_append := goodIn_r _ [21, 22, 23, 39, 40, 41] (by eq_refl) gw_wsX3_append
set_option maxRecDepth 20000 in
theorem gX7_enroll_X3_append : GoodIn wsX7_enroll (wsV RX7 179 RX3 yX3_append wsX3_append) := goodIn_app (goodIn_r _ [17, 18, 19, 20] (by eq_refl) (by decide +kernel)) ggX7_enroll_X3_append
set_option maxRecDepth 20000 in
theorem ggX7_enroll_X7_done : GoodIn wsX7_enroll wsX7_done := goodIn_r _ [27, 28, 29, 30, 31, 32, 33, 34, 35, 36, 37, 38] (by eq_refl) gw_wsX7_done
set_option maxRecDepth 20000 in
theorem gX7_enroll_X7_done : GoodIn wsX7_enroll (wsV RX7 72 RX7 yX7_done wsX7_done) := goodIn_app (goodIn_r _ [24, 25, 26, 5] (by eq_refl) (by decide +kernel)) ggX7_enroll_X7_done
set_option maxRecDepth 20000 in
theorem ggX7_strike_X7_testRolled : GoodIn wsX7_strike wsX7_testRolled := goodIn_ca (goodIn_r _ [6, 7, 8, 1, 9, 10, 5, 11, 39, 40, 41, 42, 43, 44, 45, 46, 47, 48, 49, 50, 51] (by eq_refl) (by decide +kernel)) (goodIn_sub (fun _ h => List.mem_cons_of_mem _ (List.mem_append_right _ h)) (by decide +kernel))
set_option maxRecDepth 20000 in
theorem gX7_strike_X7_testRolled : GoodIn wsX7_strike (wsV RX7 183 RX7 yX7_testRolled wsX7_testRolled) := goodIn_app (goodIn_r _ [2, 3, 4, 5] (by eq_refl) (by decide +kernel)) ggX7_strike_X7_testRolled
set_option maxRecDepth 20000 in
theorem ggX7_strike_X3_at : GoodIn wsX7_strike wsX3_at := goodIn_r _ [16, 17, 18, 49, 50, 51] (by eq_refl) gw_wsX3_at
set_option maxRecDepth 20000 in
theorem gX7_strike_X3_at : GoodIn wsX7_strike (wsV RX7 186 RX3 yX3_at wsX3_at) := goodIn_app (goodIn_r _ [12, 13, 14, 15] (by eq_refl) (by decide +kernel)) ggX7_strike_X3_at
set_option maxRecDepth 20000 in
theorem ggX7_strike_X3_removeAt : GoodIn wsX7_strike wsX3_removeAt := goodIn_r _ [22, 17, 18, 49, 50, 51] (by eq_refl) gw_wsX3_removeAt
set_option maxRecDepth 20000 in
theorem gX7_strike_X3_removeAt : GoodIn wsX7_strike (wsV RX7 189 RX3 yX3_removeAt wsX3_removeAt) := goodIn_app (goodIn_r _ [19, 20, 21, 15] (by eq_refl) (by decide +kernel)) ggX7_strike_X3_removeAt
set_option maxRecDepth 20000 in
theorem ggX7_strike_X0_degreeOf : GoodIn wsX7_strike wsX0_degreeOf := goodIn_r _ [26, 27, 28, 29, 30, 31, 32, 33] (by eq_refl) gw_wsX0_degreeOf
set_option maxRecDepth 20000 in
theorem gX7_strike_X0_degreeOf : GoodIn wsX7_strike (va_wsS RX7 66 yX0_degreeOf wsX0_degreeOf) := goodIn_app (goodIn_r _ [23, 24, 25] (by eq_refl) (by decide +kernel)) ggX7_strike_X0_degreeOf
set_option maxRecDepth 20000 in
theorem ggX7_strike_X7_done : GoodIn wsX7_strike wsX7_done := goodIn_r _ [37, 38, 39, 40, 41, 42, 43, 44, 45, 46, 47, 48] (by eq_refl) gw_wsX7_done
set_option maxRecDepth 20000 in
theorem gX7_strike_X7_done : GoodIn wsX7_strike (wsV RX7 72 RX7 yX7_done wsX7_done) := goodIn_app (goodIn_r _ [34, 35, 36, 5] (by eq_refl) (by decide +kernel)) ggX7_strike_X7_done
set_option maxRecDepth 20000 in
theorem ggX7_clear_X3_removeAll : GoodIn wsX7_clear wsX3_removeAll := goodIn_r _ [6, 7, 24, 25, 26] (by eq_refl) gw_wsX3_removeAll
set_option maxRecDepth 20000 in
theorem gX7_clear_X3_removeAll : GoodIn wsX7_clear (wsV RX7 192 RX3 yX3_removeAll wsX3_removeAll) := goodIn_app (goodIn_r _ [2, 3, 4, 5] (by eq_refl) (by decide +kernel)) ggX7_clear_X3_removeAll
set_option maxRecDepth 20000 in
theorem ggX7_clear_X7_done : GoodIn wsX7_clear wsX7_done := goodIn_r _ [12, 13, 14, 15, 16, 17, 18, 19, 20, 21, 22, 23] (by eq_refl) gw_wsX7_done
set_option maxRecDepth 20000 in
theorem gX7_clear_X7_done : GoodIn wsX7_clear (wsV RX7 72 RX7 yX7_done wsX7_done) := goodIn_app (goodIn_r _ [8, 9, 10, 11] (by eq_refl) (by decide +kernel)) ggX7_clear_X7_done
set_option maxRecDepth 20000 in
theorem ggX7_sort_X3_arrange : GoodIn wsX7_sort wsX3_arrange := goodIn_r _ [6, 7, 8, 9, 10, 11, 12, 13, 14, 15, 16, 5, 17, 34, 35, 36] (by eq_refl) gw_wsX3_arrange
set_option maxRecDepth 20000 in
theorem gX7_sort_X3_arrange : GoodIn wsX7_sort (wsV RX7 172 RX3 yX3_arrange wsX3_arrange) := goodIn_app (goodIn_r _ [2, 3, 4, 5] (by eq_refl) (by decide +kernel)) ggX7_sort_X3_arrange
set_option maxRecDepth 20000 in
theorem ggX7_sort_X7_done : GoodIn wsX7_sort wsX7_done := goodIn_r _ [22, 23, 24, 25, 26, 27, 28, 29, 30, 31, 32, 33] (by eq_refl) gw_wsX7_done
set_option maxRecDepth 20000 in
theorem gX7_sort_X7_done : GoodIn wsX7_sort (wsV RX7 72 RX7 yX7_done wsX7_done) := goodIn_app (goodIn_r _ [18, 19, 20, 21] (by eq_refl) (by decide +kernel)) ggX7_sort_X7_done
set_option maxRecDepth 20000 in
theorem ggX7_turnAll_X3_turnEach : GoodIn wsX7_turnAll wsX3_turnEach := goodIn_r _ [6, 7, 8, 9, 10, 11, 12, 13, 14, 15, 16, 17, 18, 19, 20, 21, 22, 23, 24, 25, 26, 27, 28, 29, 30, 5, 31, 48, 49, 50] (by eq_refl) gw_wsX3_turnEach
set_option maxRecDepth 20000 in
theorem gX7_turnAll_X3_turnEach : GoodIn wsX7_turnAll (wsV RX7 195 RX3 yX3_turnEach wsX3_turnEach) := goodIn_app (goodIn_r _ [2, 3, 4, 5] (by eq_refl) (by decide +kernel)) ggX7_turnAll_X3_turnEach
set_option maxRecDepth 20000 in
theorem ggX7_turnAll_X7_done : GoodIn wsX7_turnAll wsX7_done := goodIn_r _ [36, 37, 38, 39, 40, 41, 42, 43, 44, 45, 46, 47] (by eq_refl) gw_wsX7_done
set_option maxRecDepth 20000 in
theorem gX7_turnAll_X7_done : GoodIn wsX7_turnAll (wsV RX7 72 RX7 yX7_done wsX7_done) := goodIn_app (goodIn_r _ [32, 33, 34, 35] (by eq_refl) (by decide +kernel)) ggX7_turnAll_X7_done
set_option maxRecDepth 20000 in
theorem ggX7_take_X7_testRolled : GoodIn wsX7_take wsX7_testRolled := goodIn_ca (goodIn_r _ [6, 7, 8, 1, 9, 10, 5, 11, 43, 44, 45, 46, 47, 48, 49, 50, 51, 52, 53, 54, 55] (by eq_refl) (by decide +kernel)) (goodIn_sub (fun _ h => List.mem_cons_of_mem _ (List.mem_append_right _ h)) (by decide +kernel))
set_option maxRecDepth 20000 in
theorem gX7_take_X7_testRolled : GoodIn wsX7_take (wsV RX7 183 RX7 yX7_testRolled wsX7_testRolled) := goodIn_app (goodIn_r _ [2, 3, 4, 5] (by eq_refl) (by decide +kernel)) ggX7_take_X7_testRolled
set_option maxRecDepth 20000 in
theorem ggX7_take_X7_testForm : GoodIn wsX7_take wsX7_testForm := goodIn_ca (goodIn_r _ [14, 7, 8, 9, 10, 5, 11] (by eq_refl) (by decide +kernel)) (goodIn_sub (fun _ h => List.mem_cons_of_mem _ (List.mem_append_right _ h)) (by decide +kernel))
set_option maxRecDepth 20000 in
theorem gX7_take_X7_testForm : GoodIn wsX7_take (va_wsS RX7 57 yX7_testForm wsX7_testForm) := goodIn_app (goodIn_r _ [12, 13, 5] (by eq_refl) (by decide +kernel)) ggX7_take_X7_testForm
set_option maxRecDepth 20000 in
theorem ggX7_take_X3_at : GoodIn wsX7_take wsX3_at := goodIn_r _ [19, 20, 21, 53, 54, 55] (by eq_refl) gw_wsX3_at
set_option maxRecDepth 20000 in
theorem gX7_take_X3_at : GoodIn wsX7_take (wsV RX7 186 RX3 yX3_at wsX3_at) := goodIn_app (goodIn_r _ [15, 16, 17, 18] (by eq_refl) (by decide +kernel)) ggX7_take_X3_at
set_option maxRecDepth 20000 in
theorem ggX7_take_X7_become : GoodIn wsX7_take wsX7_become := goodIn_r _ [25, 26, 27, 28, 29, 30, 31, 32, 33, 34, 35, 36, 37, 38, 39, 40, 5, 41, 42, 43, 44, 45, 46, 47, 48, 49, 50, 51, 52] (by eq_refl) gw_wsX7_become
set_option maxRecDepth 20000 in
theorem gX7_take_X7_become : GoodIn wsX7_take (wsV RX7 86 RX7 yX7_become wsX7_become) := goodIn_app (goodIn_r _ [22, 23, 24, 5] (by eq_refl) (by decide +kernel)) ggX7_take_X7_become
set_option maxRecDepth 20000 in
theorem ggX7_product_X7_testForm : GoodIn wsX7_product wsX7_testForm := goodIn_ca (goodIn_r _ [5, 6, 7, 8, 9, 4, 10] (by eq_refl) (by decide +kernel)) (goodIn_sub (fun _ h => List.mem_cons_of_mem _ (List.mem_append_right _ h)) (by decide +kernel))
set_option maxRecDepth 20000 in
theorem gX7_product_X7_testForm : GoodIn wsX7_product (va_wsS RX7 57 yX7_testForm wsX7_testForm) := goodIn_app (goodIn_r _ [2, 3, 4] (by eq_refl) (by decide +kernel)) ggX7_product_X7_testForm
set_option maxRecDepth 20000 in
theorem ggX7_product_X3_hasEmpty : GoodIn wsX7_product wsX3_hasEmpty := goodIn_r _ [15, 16, 17, 71, 72, 73] (by eq_refl) gw_wsX3_hasEmpty
set_option maxRecDepth 20000 in
theorem gX7_product_X3_hasEmpty : GoodIn wsX7_product (wsV RX7 198 RX3 yX3_hasEmpty wsX3_hasEmpty) := goodIn_app (goodIn_r _ [11, 12, 13, 14] (by eq_refl) (by decide +kernel)) ggX7_product_X3_hasEmpty
set_option maxRecDepth 20000 in
theorem ggX7_product_X3_degreesTogether : GoodIn wsX7_product wsX3_degreesTogether := goodIn_r _ [21, 16, 17, 22, 23, 24, 25, 26, 27, 28, 29, 30, 31, 32, 71, 72, 73] (by eq_refl) gw_wsX3_degreesTogether
set_option maxRecDepth 20000 in
theorem gX7_product_X3_degreesTogether : GoodIn wsX7_product (wsV RX7 202 RX3 yX3_degreesTogether wsX3_degreesTogether) := goodIn_app (goodIn_r _ [18, 19, 20, 14] (by eq_refl) (by decide +kernel)) ggX7_product_X3_degreesTogether
set_option maxRecDepth 20000 in
theorem ggX7_product_X7_refuse : GoodIn wsX7_product wsX7_refuse := goodIn_r _ [36, 37, 61, 62, 63, 64, 65, 66, 67, 68, 69, 70] (by eq_refl) gw_wsX7_refuse
set_option maxRecDepth 20000 in
theorem gX7_product_X7_refuse : GoodIn wsX7_product (wsV RX7 90 RX7 yX7_refuse wsX7_refuse) := goodIn_app (goodIn_r _ [33, 34, 35, 4] (by eq_refl) (by decide +kernel)) ggX7_product_X7_refuse
set_option maxRecDepth 20000 in
theorem ggX7_product_X3_multipliedAll : GoodIn wsX7_product wsX3_multipliedAll := goodIn_r _ [41, 16, 17, 42, 12, 13, 14, 15, 43, 44, 24, 45, 46, 23, 25, 26, 27, 28, 29, 30, 31, 32, 47, 48, 49, 71, 72, 73] (by eq_refl) gw_wsX3_multipliedAll
set_option maxRecDepth 20000 in
theorem gX7_product_X3_multipliedAll : GoodIn wsX7_product (wsV RX7 205 RX3 yX3_multipliedAll wsX3_multipliedAll) := goodIn_app (goodIn_r _ [38, 39, 40, 14] (by eq_refl) (by decide +kernel)) ggX7_product_X3_multipliedAll
set_option maxRecDepth 20000 in
theorem ggX7_product_X7_become : GoodIn wsX7_product wsX7_become := goodIn_r _ [53, 54, 55, 23, 24, 25, 26, 27, 28, 29, 30, 31, 32, 56, 57, 58, 4, 59, 60, 61, 62, 63, 64, 65, 66, 67, 68, 69, 70] (by eq_refl) gw_wsX7_become
set_option maxRecDepth 20000 in
theorem gX7_product_X7_become : GoodIn wsX7_product (wsV RX7 86 RX7 yX7_become wsX7_become) := goodIn_app (goodIn_r _ [50, 51, 52, 4] (by eq_refl) (by decide +kernel)) ggX7_product_X7_become
set_option maxRecDepth 20000 in
theorem ggX7_start_X7_testForm : GoodIn wsX7_start wsX7_testForm := goodIn_ca (goodIn_r _ [6, 7, 8, 9, 10, 5, 11] (by eq_refl) (by decide +kernel)) (goodIn_sub (fun _ h => List.mem_cons_of_mem _ (List.mem_append_right _ h)) (by decide +kernel))
set_option maxRecDepth 20000 in
theorem gX7_start_X7_testForm : GoodIn wsX7_start (va_wsS RX7 57 yX7_testForm wsX7_testForm) := goodIn_app (goodIn_r _ [3, 4, 5] (by eq_refl) (by decide +kernel)) ggX7_start_X7_testForm
set_option maxRecDepth 20000 in
theorem ggX7_start_X6_isWheel : GoodIn wsX7_start wsX6_isWheel := goodIn_r _ [15, 16, 17, 18, 19, 20, 21, 22, 23, 24, 25, 26, 10, 5, 11, 27, 28, 29] (by eq_refl) gw_wsX6_isWheel
set_option maxRecDepth 20000 in
theorem gX7_start_X6_isWheel : GoodIn wsX7_start (va_wsS RX7 209 yX6_isWheel wsX6_isWheel) := goodIn_app (goodIn_r _ [12, 13, 14] (by eq_refl) (by decide +kernel)) ggX7_start_X6_isWheel
set_option maxRecDepth 20000 in
theorem ggX7_start_X7_refuse : GoodIn wsX7_start wsX7_refuse := goodIn_r _ [33, 34, 52, 53, 54, 55, 56, 57, 58, 59, 60, 61] (by eq_refl) gw_wsX7_refuse
set_option maxRecDepth 20000 in
theorem gX7_start_X7_refuse : GoodIn wsX7_start (wsV RX7 90 RX7 yX7_refuse wsX7_refuse) := goodIn_app (goodIn_r _ [30, 31, 32, 5] (by eq_refl) (by decide +kernel)) ggX7_start_X7_refuse
set_option maxRecDepth 20000 in
theorem ggX7_start_X5_beginAnew : GoodIn wsX7_start wsX5_beginAnew := goodIn_r _ [39, 40, 41, 42, 43, 38, 44, 45, 17, 18, 19, 20, 21, 22, 23, 24, 25, 26, 62, 63] (by eq_refl) gw_wsX5_beginAnew
set_option maxRecDepth 20000 in
theorem gX7_start_X5_beginAnew : GoodIn wsX7_start (wsV RX7 215 RX5 yX5_beginAnew wsX5_beginAnew) := goodIn_app (goodIn_r _ [35, 36, 37, 38] (by eq_refl) (by decide +kernel)) ggX7_start_X5_beginAnew
set_option maxRecDepth 20000 in
theorem ggX7_start_X0_degreeOf : GoodIn wsX7_start wsX0_degreeOf := goodIn_r _ [19, 20, 21, 22, 23, 24, 25, 26] (by eq_refl) gw_wsX0_degreeOf
set_option maxRecDepth 20000 in
theorem gX7_start_X0_degreeOf : GoodIn wsX7_start (va_wsS RX7 66 yX0_degreeOf wsX0_degreeOf) := goodIn_app (goodIn_r _ [46, 17, 18] (by eq_refl) (by decide +kernel)) ggX7_start_X0_degreeOf
set_option maxRecDepth 20000 in
theorem ggX7_start_X7_done : GoodIn wsX7_start wsX7_done := goodIn_r _ [50, 51, 52, 53, 54, 55, 56, 57, 58, 59, 60, 61] (by eq_refl) gw_wsX7_done
set_option maxRecDepth 20000 in
theorem gX7_start_X7_done : GoodIn wsX7_start (wsV RX7 72 RX7 yX7_done wsX7_done) := goodIn_app (goodIn_r _ [47, 48, 49, 5] (by eq_refl) (by decide +kernel)) ggX7_start_X7_done
set_option maxRecDepth 20000 in
theorem ggX7_step_X7_testRange : GoodIn wsX7_step wsX7_testRange := goodIn_ca (goodIn_r _ [5, 6, 7, 8, 9, 4, 10] (by eq_refl) (by decide +kernel)) (goodIn_sub (fun _ h => List.mem_cons_of_mem _ (List.mem_append_right _ h)) (by decide +kernel))
set_option maxRecDepth 20000 in
theorem gX7_step_X7_testRange : GoodIn wsX7_step (va_wsS RX7 62 yX7_testRange wsX7_testRange) := goodIn_app (goodIn_r _ [2, 3, 4] (by eq_refl) (by decide +kernel)) ggX7_step_X7_testRange
set_option maxRecDepth 20000 in
theorem ggX7_step_X5_goOn : GoodIn wsX7_step wsX5_goOn := goodIn_r _ [15, 16, 17, 18, 19, 14, 20, 21, 22, 23, 24, 25, 26, 27, 28, 29, 30, 31, 32, 33, 34, 50, 51] (by eq_refl) gw_wsX5_goOn
set_option maxRecDepth 20000 in
theorem gX7_step_X5_goOn : GoodIn wsX7_step (wsV RX7 221 RX5 yX5_goOn wsX5_goOn) := goodIn_app (goodIn_r _ [11, 12, 13, 14] (by eq_refl) (by decide +kernel)) ggX7_step_X5_goOn
set_option maxRecDepth 20000 in
theorem ggX7_step_X7_done : GoodIn wsX7_step wsX7_done := goodIn_r _ [38, 39, 40, 41, 42, 43, 44, 45, 46, 47, 48, 49] (by eq_refl) gw_wsX7_done
set_option maxRecDepth 20000 in
theorem gX7_step_X7_done : GoodIn wsX7_step (wsV RX7 72 RX7 yX7_done wsX7_done) := goodIn_app (goodIn_r _ [35, 36, 37, 4] (by eq_refl) (by decide +kernel)) ggX7_step_X7_done
set_option maxRecDepth 20000 in
theorem ggX7_load_X7_testRange : GoodIn wsX7_load wsX7_testRange := goodIn_ca (goodIn_r _ [5, 6, 7, 8, 9, 4, 10] (by eq_refl) (by decide +kernel)) (goodIn_sub (fun _ h => List.mem_cons_of_mem _ (List.mem_append_right _ h)) (by decide +kernel))
set_option maxRecDepth 20000 in
theorem gX7_load_X7_testRange : GoodIn wsX7_load (va_wsS RX7 62 yX7_testRange wsX7_testRange) := goodIn_app (goodIn_r _ [2, 3, 4] (by eq_refl) (by decide +kernel)) ggX7_load_X7_testRange
set_option maxRecDepth 20000 in
theorem ggX7_load_X0_degreeOf : GoodIn wsX7_load wsX0_degreeOf := goodIn_r _ [14, 15, 16, 17, 18, 19, 20, 21] (by eq_refl) gw_wsX0_degreeOf
set_option maxRecDepth 20000 in
theorem gX7_load_X0_degreeOf : GoodIn wsX7_load (va_wsS RX7 66 yX0_degreeOf wsX0_degreeOf) := goodIn_app (goodIn_r _ [11, 12, 13] (by eq_refl) (by decide +kernel)) ggX7_load_X0_degreeOf
set_option maxRecDepth 20000 in
theorem ggX7_load_X7_refuse : GoodIn wsX7_load wsX7_refuse := goodIn_r _ [25, 26, 35, 36, 37, 38, 39, 40, 41, 42, 43, 44] (by eq_refl) gw_wsX7_refuse
set_option maxRecDepth 20000 in
theorem gX7_load_X7_refuse : GoodIn wsX7_load (wsV RX7 90 RX7 yX7_refuse wsX7_refuse) := goodIn_app (goodIn_r _ [22, 23, 24, 4] (by eq_refl) (by decide +kernel)) ggX7_load_X7_refuse
set_option maxRecDepth 20000 in
theorem ggX7_load_X0_onesOf : GoodIn wsX7_load wsX0_onesOf := goodIn_r _ [29, 15, 16, 17, 18, 19, 20, 21] (by eq_refl) gw_wsX0_onesOf
set_option maxRecDepth 20000 in
theorem gX7_load_X0_onesOf : GoodIn wsX7_load (va_wsS RX7 83 yX0_onesOf wsX0_onesOf) := goodIn_app (goodIn_r _ [27, 28, 13] (by eq_refl) (by decide +kernel)) ggX7_load_X0_onesOf
set_option maxRecDepth 20000 in
theorem ggX7_load_X7_done : GoodIn wsX7_load wsX7_done := goodIn_r _ [33, 34, 35, 36, 37, 38, 39, 40, 41, 42, 43, 44] (by eq_refl) gw_wsX7_done
set_option maxRecDepth 20000 in
theorem gX7_load_X7_done : GoodIn wsX7_load (wsV RX7 72 RX7 yX7_done wsX7_done) := goodIn_app (goodIn_r _ [30, 31, 32, 4] (by eq_refl) (by decide +kernel)) ggX7_load_X7_done
set_option maxRecDepth 20000 in
theorem ggX7_degree_X7_testForm : GoodIn wsX7_degree wsX7_testForm := goodIn_ca (goodIn_r _ [5, 6, 7, 8, 9, 4, 10] (by eq_refl) (by decide +kernel)) (goodIn_sub (fun _ h => List.mem_cons_of_mem _ (List.mem_append_right _ h)) (by decide +kernel))
set_option maxRecDepth 20000 in
theorem gX7_degree_X7_testForm : GoodIn wsX7_degree (va_wsS RX7 57 yX7_testForm wsX7_testForm) := goodIn_app (goodIn_r _ [2, 3, 4] (by eq_refl) (by decide +kernel)) ggX7_degree_X7_testForm
set_option maxRecDepth 20000 in
theorem ggX7_degree_X0_degreeOf : GoodIn wsX7_degree wsX0_degreeOf := goodIn_r _ [14, 15, 16, 17, 18, 19, 20, 21] (by eq_refl) gw_wsX0_degreeOf
set_option maxRecDepth 20000 in
theorem gX7_degree_X0_degreeOf : GoodIn wsX7_degree (va_wsS RX7 66 yX0_degreeOf wsX0_degreeOf) := goodIn_app (goodIn_r _ [11, 12, 13] (by eq_refl) (by decide +kernel)) ggX7_degree_X0_degreeOf
set_option maxRecDepth 20000 in
theorem ggX7_code_X7_testForm : GoodIn wsX7_code wsX7_testForm := goodIn_ca (goodIn_r _ [5, 6, 7, 8, 9, 4, 10] (by eq_refl) (by decide +kernel)) (goodIn_sub (fun _ h => List.mem_cons_of_mem _ (List.mem_append_right _ h)) (by decide +kernel))
set_option maxRecDepth 20000 in
theorem gX7_code_X7_testForm : GoodIn wsX7_code (va_wsS RX7 57 yX7_testForm wsX7_testForm) := goodIn_app (goodIn_r _ [2, 3, 4] (by eq_refl) (by decide +kernel)) ggX7_code_X7_testForm
set_option maxRecDepth 20000 in
theorem ggX7_code_X0_degreeOf : GoodIn wsX7_code wsX0_degreeOf := goodIn_r _ [14, 15, 16, 17, 18, 19, 20, 21] (by eq_refl) gw_wsX0_degreeOf
set_option maxRecDepth 20000 in
theorem gX7_code_X0_degreeOf : GoodIn wsX7_code (va_wsS RX7 66 yX0_degreeOf wsX0_degreeOf) := goodIn_app (goodIn_r _ [11, 12, 13] (by eq_refl) (by decide +kernel)) ggX7_code_X0_degreeOf
set_option maxRecDepth 20000 in
theorem ggX7_has_X7_testForm : GoodIn wsX7_has wsX7_testForm := goodIn_ca (goodIn_r _ [5, 6, 7, 8, 9, 4, 10] (by eq_refl) (by decide +kernel)) (goodIn_sub (fun _ h => List.mem_cons_of_mem _ (List.mem_append_right _ h)) (by decide +kernel))
set_option maxRecDepth 20000 in
theorem gX7_has_X7_testForm : GoodIn wsX7_has (va_wsS RX7 57 yX7_testForm wsX7_testForm) := goodIn_app (goodIn_r _ [2, 3, 4] (by eq_refl) (by decide +kernel)) ggX7_has_X7_testForm
set_option maxRecDepth 20000 in
theorem ggX7_has_X7_testPlace : GoodIn wsX7_has wsX7_testPlace := goodIn_ca (goodIn_r _ [13, 6, 7, 8, 9, 4, 10] (by eq_refl) (by decide +kernel)) (goodIn_sub (fun _ h => List.mem_cons_of_mem _ (List.mem_append_right _ h)) (by decide +kernel))
set_option maxRecDepth 20000 in
theorem gX7_has_X7_testPlace : GoodIn wsX7_has (va_wsS RX7 76 yX7_testPlace wsX7_testPlace) := goodIn_app (goodIn_r _ [11, 12, 4] (by eq_refl) (by decide +kernel)) ggX7_has_X7_testPlace
set_option maxRecDepth 20000 in
theorem ggX7_has_X0_hasOne : GoodIn wsX7_has wsX0_hasOne := goodIn_r _ [17] (by eq_refl) gw_wsX0_hasOne
set_option maxRecDepth 20000 in
theorem gX7_has_X0_hasOne : GoodIn wsX7_has (va_wsS RX7 79 yX0_hasOne wsX0_hasOne) := goodIn_app (goodIn_r _ [14, 15, 16] (by eq_refl) (by decide +kernel)) ggX7_has_X0_hasOne
set_option maxRecDepth 20000 in
theorem ggX7_ones_X7_testForm : GoodIn wsX7_ones wsX7_testForm := goodIn_ca (goodIn_r _ [5, 6, 7, 8, 9, 4, 10] (by eq_refl) (by decide +kernel)) (goodIn_sub (fun _ h => List.mem_cons_of_mem _ (List.mem_append_right _ h)) (by decide +kernel))
set_option maxRecDepth 20000 in
theorem gX7_ones_X7_testForm : GoodIn wsX7_ones (va_wsS RX7 57 yX7_testForm wsX7_testForm) := goodIn_app (goodIn_r _ [2, 3, 4] (by eq_refl) (by decide +kernel)) ggX7_ones_X7_testForm
set_option maxRecDepth 20000 in
theorem ggX7_ones_X0_onesOf : GoodIn wsX7_ones wsX0_onesOf := goodIn_r _ [14, 15, 16, 17, 18, 19, 20, 21] (by eq_refl) gw_wsX0_onesOf
set_option maxRecDepth 20000 in
theorem gX7_ones_X0_onesOf : GoodIn wsX7_ones (va_wsS RX7 83 yX0_onesOf wsX0_onesOf) := goodIn_app (goodIn_r _ [11, 12, 13] (by eq_refl) (by decide +kernel)) ggX7_ones_X0_onesOf
set_option maxRecDepth 20000 in
theorem ggX7_lowest_X7_testForm : GoodIn wsX7_lowest wsX7_testForm := goodIn_ca (goodIn_r _ [5, 6, 7, 8, 9, 4, 10] (by eq_refl) (by decide +kernel)) (goodIn_sub (fun _ h => List.mem_cons_of_mem _ (List.mem_append_right _ h)) (by decide +kernel))
set_option maxRecDepth 20000 in
theorem gX7_lowest_X7_testForm : GoodIn wsX7_lowest (va_wsS RX7 57 yX7_testForm wsX7_testForm) := goodIn_app (goodIn_r _ [2, 3, 4] (by eq_refl) (by decide +kernel)) ggX7_lowest_X7_testForm
set_option maxRecDepth 20000 in
theorem ggX7_lowest_X0_lowestOf : GoodIn wsX7_lowest wsX0_lowestOf := goodIn_r _ [14, 15, 16, 13, 17, 18, 19, 20, 21, 22, 23, 24] (by eq_refl) gw_wsX0_lowestOf
set_option maxRecDepth 20000 in
theorem gX7_lowest_X0_lowestOf : GoodIn wsX7_lowest (va_wsS RX7 227 yX0_lowestOf wsX0_lowestOf) := goodIn_app (goodIn_r _ [11, 12, 13] (by eq_refl) (by decide +kernel)) ggX7_lowest_X0_lowestOf
set_option maxRecDepth 20000 in
theorem ggX7_text_X7_testForm : GoodIn wsX7_text wsX7_testForm := goodIn_ca (goodIn_r _ [5, 6, 7, 8, 9, 4, 10] (by eq_refl) (by decide +kernel)) (goodIn_sub (fun _ h => List.mem_cons_of_mem _ (List.mem_append_right _ h)) (by decide +kernel))
set_option maxRecDepth 20000 in
theorem gX7_text_X7_testForm : GoodIn wsX7_text (va_wsS RX7 57 yX7_testForm wsX7_testForm) := goodIn_app (goodIn_r _ [2, 3, 4] (by eq_refl) (by decide +kernel)) ggX7_text_X7_testForm
set_option maxRecDepth 20000 in
theorem ggX7_text_X0_textOf : GoodIn wsX7_text wsX0_textOf := goodIn_r _ [14, 15, 16, 17, 18, 19, 20, 21, 22, 23, 24, 25, 26, 27, 28, 29, 30, 31, 32, 33, 34, 35, 36, 37, 38, 39, 40, 41, 13, 42, 43, 44, 45, 46, 47, 48, 49, 50, 51, 52, 53, 54, 55, 56, 57, 58, 59, 60, 61, 62, 63, 64, 65, 66, 67, 68, 69, 70, 71, 72, 73, 74, 75, 76, 77, 78, 79, 80, 81, 82, 83, 84, 85, 86, 87, 88, 89, 90, 91, 92, 93, 94, 95, 96, 97, 98, 99, 100, 101, 102, 103, 104, 105, 106, 107, 108, 109, 110, 111, 112, 113, 114, 115, 116, 117, 118, 119, 120, 121, 122, 123, 124, 125, 126, 127, 128, 129, 130, 131, 132, 133, 134, 135, 136, 137, 138, 139, 140, 141, 142, 143, 144, 145, 146, 147, 148, 149, 150, 151, 152, 153, 154, 155, 156, 157, 158, 159, 160, 161, 162, 163, 164, 165, 166, 167, 168, 169, 170, 171, 172, 173, 174, 175, 176, 177, 178, 179, 180, 181, 182, 183, 184, 185, 186, 187, 188, 189, 190, 191, 192, 193, 194, 195, 196, 197, 198, 199, 200, 201, 202, 203, 204, 205, 206, 207, 208, 209, 210, 211, 212, 213, 214, 215, 216, 217, 218, 219, 220, 221, 222, 223, 224, 225, 226, 227, 228, 229, 230, 231, 232, 233, 234, 235, 236, 237, 238, 239, 240, 241, 242, 243, 244, 245, 246, 257, 258, 259, 260, 261, 262, 263, 264] (by eq_refl) gw_wsX0_textOf
set_option maxRecDepth 20000 in
theorem gX7_text_X0_textOf : GoodIn wsX7_text (va_wsS RX7 230 yX0_textOf wsX0_textOf) := goodIn_app (goodIn_r _ [11, 12, 13] (by eq_refl) (by decide +kernel)) ggX7_text_X0_textOf
set_option maxRecDepth 20000 in
theorem ggX7_order_X7_testForm : GoodIn wsX7_order wsX7_testForm := goodIn_ca (goodIn_r _ [5, 6, 7, 8, 9, 4, 10] (by eq_refl) (by decide +kernel)) (goodIn_sub (fun _ h => List.mem_cons_of_mem _ (List.mem_append_right _ h)) (by decide +kernel))
set_option maxRecDepth 20000 in
theorem gX7_order_X7_testForm : GoodIn wsX7_order (va_wsS RX7 57 yX7_testForm wsX7_testForm) := goodIn_app (goodIn_r _ [2, 3, 4] (by eq_refl) (by decide +kernel)) ggX7_order_X7_testForm
set_option maxRecDepth 20000 in
theorem ggX7_divides_X7_testForm : GoodIn wsX7_divides wsX7_testForm := goodIn_ca (goodIn_r _ [5, 6, 7, 8, 9, 4, 10] (by eq_refl) (by decide +kernel)) (goodIn_sub (fun _ h => List.mem_cons_of_mem _ (List.mem_append_right _ h)) (by decide +kernel))
set_option maxRecDepth 20000 in
theorem gX7_divides_X7_testForm : GoodIn wsX7_divides (va_wsS RX7 57 yX7_testForm wsX7_testForm) := goodIn_app (goodIn_r _ [2, 3, 4] (by eq_refl) (by decide +kernel)) ggX7_divides_X7_testForm
set_option maxRecDepth 20000 in
theorem ggX7_divides_X0_goesInto : GoodIn wsX7_divides wsX0_goesInto := goodIn_r _ [14, 15, 16, 13, 17, 18, 19, 20, 21, 22, 23, 24, 25, 26, 27, 28, 29, 30] (by eq_refl) gw_wsX0_goesInto
set_option maxRecDepth 20000 in
theorem gX7_divides_X0_goesInto : GoodIn wsX7_divides (va_wsS RX7 234 yX0_goesInto wsX0_goesInto) := goodIn_app (goodIn_r _ [11, 12, 13] (by eq_refl) (by decide +kernel)) ggX7_divides_X0_goesInto
set_option maxRecDepth 20000 in
theorem ggX7_check_X7_testForm : GoodIn wsX7_check wsX7_testForm := goodIn_ca (goodIn_r _ [5, 6, 7, 8, 9, 4, 10] (by eq_refl) (by decide +kernel)) (goodIn_sub (fun _ h => List.mem_cons_of_mem _ (List.mem_append_right _ h)) (by decide +kernel))
set_option maxRecDepth 20000 in
theorem gX7_check_X7_testForm : GoodIn wsX7_check (va_wsS RX7 57 yX7_testForm wsX7_testForm) := goodIn_app (goodIn_r _ [2, 3, 4] (by eq_refl) (by decide +kernel)) ggX7_check_X7_testForm
set_option maxRecDepth 20000 in
theorem ggX7_check_X0_degreeOf : GoodIn wsX7_check wsX0_degreeOf := goodIn_r _ [14, 15, 16, 17, 18, 19, 20, 21] (by eq_refl) gw_wsX0_degreeOf
set_option maxRecDepth 20000 in
theorem gX7_check_X0_degreeOf : GoodIn wsX7_check (va_wsS RX7 66 yX0_degreeOf wsX0_degreeOf) := goodIn_app (goodIn_r _ [11, 12, 13] (by eq_refl) (by decide +kernel)) ggX7_check_X0_degreeOf
set_option maxRecDepth 20000 in
theorem ggX7_check_X7_isBetween : GoodIn wsX7_check wsX7_isBetween := goodIn_r _ [10] (by eq_refl) gw_wsX7_isBetween
set_option maxRecDepth 20000 in
theorem gX7_check_X7_isBetween : GoodIn wsX7_check (va_wsS RX7 161 yX7_isBetween wsX7_isBetween) := goodIn_app (goodIn_r _ [8, 9, 4] (by eq_refl) (by decide +kernel)) ggX7_check_X7_isBetween
set_option maxRecDepth 20000 in
theorem ggX7_check_X7_canBeSealed : GoodIn wsX7_check wsX7_canBeSealed := goodIn_r _ [25, 1, 11, 12, 13, 14, 15, 16, 17, 18, 19, 20, 21, 36, 37, 38, 39, 40, 41, 42, 43, 44, 45] (by eq_refl) gw_wsX7_canBeSealed
set_option maxRecDepth 20000 in
theorem gX7_check_X7_canBeSealed : GoodIn wsX7_check (wsV RX7 154 RX7 yX7_canBeSealed wsX7_canBeSealed) := goodIn_app (goodIn_r _ [22, 23, 24, 4] (by eq_refl) (by decide +kernel)) ggX7_check_X7_canBeSealed
