set_option maxRecDepth 20000 in
theorem ggX7_check_X0_checkOf : GoodIn wsX7_check wsX0_checkOf := goodIn_r _ [28, 29, 12, 13, 14, 15, 16, 17, 18, 19, 20, 21, 30, 31, 32, 33, 34, 35] (by eq_refl) gw_wsX0_checkOf
set_option maxRecDepth 20000 in
theorem gX7_check_X0_checkOf : GoodIn wsX7_check (va_wsS RX7 158 yX0_checkOf wsX0_checkOf) := goodIn_app (goodIn_r _ [26, 27, 13] (by eq_refl) (by decide +kernel)) ggX7_check_X0_checkOf
set_option maxRecDepth 20000 in
theorem ggX7_isPrime_X7_testForm : GoodIn wsX7_isPrime wsX7_testForm := goodIn_ca (goodIn_r _ [5, 6, 7, 8, 9, 4, 10] (by eq_refl) (by decide +kernel)) (goodIn_sub (fun _ h => List.mem_cons_of_mem _ (List.mem_append_left _ (List.mem_append_right _ h))) (by decide +kernel))
set_option maxRecDepth 20000 in
theorem gX7_isPrime_X7_testForm : GoodIn wsX7_isPrime (va_wsS RX7 57 yX7_testForm wsX7_testForm) := goodIn_app (goodIn_r _ [2, 3, 4] (by eq_refl) (by decide +kernel)) ggX7_isPrime_X7_testForm
set_option maxRecDepth 20000 in
theorem ggX7_isPrime_X7_testRange : GoodIn wsX7_isPrime wsX7_testRange := goodIn_ca (goodIn_r _ [13, 14, 15, 8, 9, 4, 10] (by eq_refl) (by decide +kernel)) (goodIn_sub (fun _ h => List.mem_cons_of_mem _ (List.mem_append_right _ h)) (by decide +kernel))
set_option maxRecDepth 20000 in
theorem gX7_isPrime_X7_testRange : GoodIn wsX7_isPrime (va_wsS RX7 62 yX7_testRange wsX7_testRange) := goodIn_app (goodIn_r _ [11, 12, 4] (by eq_refl) (by decide +kernel)) ggX7_isPrime_X7_testRange
set_option maxRecDepth 20000 in
theorem ggX7_isPrime_X0_degreeOf : GoodIn wsX7_isPrime wsX0_degreeOf := goodIn_r _ [19, 20, 21, 22, 23, 24, 25, 26] (by eq_refl) gw_wsX0_degreeOf
set_option maxRecDepth 20000 in
theorem gX7_isPrime_X0_degreeOf : GoodIn wsX7_isPrime (va_wsS RX7 66 yX0_degreeOf wsX0_degreeOf) := goodIn_app (goodIn_r _ [16, 17, 18] (by eq_refl) (by decide +kernel)) ggX7_isPrime_X0_degreeOf
set_option maxRecDepth 20000 in
theorem ggX7_isPrime_X2_isByTrying : GoodIn wsX7_isPrime wsX2_isByTrying := goodIn_r _ [30, 31, 32, 17, 18, 19, 20, 21, 22, 23, 24, 25, 26, 33, 34, 35, 36, 37, 38, 39, 40, 41, 42] (by eq_refl) gw_wsX2_isByTrying
set_option maxRecDepth 20000 in
theorem gX7_isPrime_X2_isByTrying : GoodIn wsX7_isPrime (va_wsS RX7 237 yX2_isByTrying wsX2_isByTrying) := goodIn_app (goodIn_r _ [27, 28, 29] (by eq_refl) (by decide +kernel)) ggX7_isPrime_X2_isByTrying
set_option maxRecDepth 20000 in
theorem ggX7_isPrime_X2_isByRising : GoodIn wsX7_isPrime wsX2_isByRising := goodIn_r _ [45, 31, 32, 17, 18, 19, 20, 21, 22, 23, 24, 25, 26, 46, 47, 48, 49, 36, 37, 38, 39, 40, 41, 42, 50, 51, 52, 33, 34, 35, 53, 54, 29, 55, 56, 57, 58] (by eq_refl) gw_wsX2_isByRising
set_option maxRecDepth 20000 in
theorem gX7_isPrime_X2_isByRising : GoodIn wsX7_isPrime (va_wsS RX7 240 yX2_isByRising wsX2_isByRising) := goodIn_app (goodIn_r _ [43, 44, 29] (by eq_refl) (by decide +kernel)) ggX7_isPrime_X2_isByRising
set_option maxRecDepth 20000 in
theorem ggX7_primes_X7_testRange : GoodIn wsX7_primes wsX7_testRange := goodIn_ca (goodIn_r _ [4, 5, 6, 7, 8, 3, 9] (by eq_refl) (by decide +kernel)) (goodIn_sub (fun _ h => List.mem_cons_of_mem _ (List.mem_append_right _ h)) (by decide +kernel))
set_option maxRecDepth 20000 in
theorem gX7_primes_X7_testRange : GoodIn wsX7_primes (va_wsS RX7 62 yX7_testRange wsX7_testRange) := goodIn_app (goodIn_r _ [1, 2, 3] (by eq_refl) (by decide +kernel)) ggX7_primes_X7_testRange
set_option maxRecDepth 20000 in
theorem ggX7_primes_X2_howManyBySum : GoodIn wsX7_primes wsX2_howManyBySum := goodIn_r _ [13, 14, 15, 12, 16, 17, 18, 19] (by eq_refl) gw_wsX2_howManyBySum
set_option maxRecDepth 20000 in
theorem gX7_primes_X2_howManyBySum : GoodIn wsX7_primes (va_wsS RX7 243 yX2_howManyBySum wsX2_howManyBySum) := goodIn_app (goodIn_r _ [10, 11, 12] (by eq_refl) (by decide +kernel)) ggX7_primes_X2_howManyBySum
set_option maxRecDepth 20000 in
theorem ggX7_primes_X2_howManyByCounting : GoodIn wsX7_primes wsX2_howManyByCounting := goodIn_r _ [22, 23, 24, 25, 12, 26, 27, 28, 29, 30, 31, 32, 33, 34, 35, 36, 37, 38, 39, 40, 41, 42, 43, 44, 45, 46, 47] (by eq_refl) gw_wsX2_howManyByCounting
set_option maxRecDepth 20000 in
theorem gX7_primes_X2_howManyByCounting : GoodIn wsX7_primes (va_wsS RX7 246 yX2_howManyByCounting wsX2_howManyByCounting) := goodIn_app (goodIn_r _ [20, 21, 12] (by eq_refl) (by decide +kernel)) ggX7_primes_X2_howManyByCounting
set_option maxRecDepth 20000 in
theorem ggX7_prime_X7_testRange : GoodIn wsX7_prime wsX7_testRange := goodIn_ca (goodIn_r _ [4, 5, 6, 7, 8, 3, 9] (by eq_refl) (by decide +kernel)) (goodIn_sub (fun _ h => List.mem_cons_of_mem _ (List.mem_append_right _ h)) (by decide +kernel))
set_option maxRecDepth 20000 in
theorem gX7_prime_X7_testRange : GoodIn wsX7_prime (va_wsS RX7 62 yX7_testRange wsX7_testRange) := goodIn_app (goodIn_r _ [1, 2, 3] (by eq_refl) (by decide +kernel)) ggX7_prime_X7_testRange
set_option maxRecDepth 20000 in
theorem ggX7_prime_X2_codeOf : GoodIn wsX7_prime wsX2_codeOf := goodIn_r _ [13, 14, 15, 12, 16, 17, 18, 19, 20, 21, 22, 23, 24, 25, 26, 27, 28, 29, 30, 31, 32, 33, 34, 35, 36, 37, 38] (by eq_refl) gw_wsX2_codeOf
set_option maxRecDepth 20000 in
theorem gX7_prime_X2_codeOf : GoodIn wsX7_prime (va_wsS RX7 249 yX2_codeOf wsX2_codeOf) := goodIn_app (goodIn_r _ [10, 11, 12] (by eq_refl) (by decide +kernel)) ggX7_prime_X2_codeOf
set_option maxRecDepth 20000 in
theorem ggX7_period_X7_testForm : GoodIn wsX7_period wsX7_testForm := goodIn_ca (goodIn_r _ [5, 6, 7, 8, 9, 4, 10] (by eq_refl) (by decide +kernel)) (goodIn_sub (fun _ h => List.mem_cons_of_mem _ (List.mem_append_left _ (List.mem_append_right _ h))) (by decide +kernel))
set_option maxRecDepth 20000 in
theorem gX7_period_X7_testForm : GoodIn wsX7_period (va_wsS RX7 57 yX7_testForm wsX7_testForm) := goodIn_app (goodIn_r _ [2, 3, 4] (by eq_refl) (by decide +kernel)) ggX7_period_X7_testForm
set_option maxRecDepth 20000 in
theorem ggX7_period_X7_testRange : GoodIn wsX7_period wsX7_testRange := goodIn_ca (goodIn_r _ [13, 14, 15, 8, 9, 4, 10] (by eq_refl) (by decide +kernel)) (goodIn_sub (fun _ h => List.mem_cons_of_mem _ (List.mem_append_right _ h)) (by decide +kernel))
set_option maxRecDepth 20000 in
theorem gX7_period_X7_testRange : GoodIn wsX7_period (va_wsS RX7 62 yX7_testRange wsX7_testRange) := goodIn_app (goodIn_r _ [11, 12, 4] (by eq_refl) (by decide +kernel)) ggX7_period_X7_testRange
set_option maxRecDepth 20000 in
theorem ggX7_period_X6_isWheel : GoodIn wsX7_period wsX6_isWheel := goodIn_r _ [19, 20, 21, 22, 23, 24, 25, 26, 27, 28, 29, 30, 9, 4, 10, 31, 32, 33] (by eq_refl) gw_wsX6_isWheel
set_option maxRecDepth 20000 in
theorem gX7_period_X6_isWheel : GoodIn wsX7_period (va_wsS RX7 209 yX6_isWheel wsX6_isWheel) := goodIn_app (goodIn_r _ [16, 17, 18] (by eq_refl) (by decide +kernel)) ggX7_period_X6_isWheel
set_option maxRecDepth 20000 in
theorem ggX7_period_X6_periodByMultiplying : GoodIn wsX7_period wsX6_periodByMultiplying := goodIn_r _ [36, 37, 38, 22, 39, 40, 21, 23, 24, 25, 26, 27, 28, 29, 30, 41, 32, 33] (by eq_refl) gw_wsX6_periodByMultiplying
set_option maxRecDepth 20000 in
theorem gX7_period_X6_periodByMultiplying : GoodIn wsX7_period (va_wsS RX7 253 yX6_periodByMultiplying wsX6_periodByMultiplying) := goodIn_app (goodIn_r _ [34, 35, 18] (by eq_refl) (by decide +kernel)) ggX7_period_X6_periodByMultiplying
set_option maxRecDepth 20000 in
theorem ggX7_period_X6_periodBySteps : GoodIn wsX7_period wsX6_periodBySteps := goodIn_r _ [44, 45, 46, 47, 48, 49, 21, 22, 23, 24, 25, 26, 27, 28, 29, 30, 50, 51, 52, 53, 54, 55, 56, 57, 58] (by eq_refl) gw_wsX6_periodBySteps
set_option maxRecDepth 20000 in
theorem gX7_period_X6_periodBySteps : GoodIn wsX7_period (va_wsS RX7 256 yX6_periodBySteps wsX6_periodBySteps) := goodIn_app (goodIn_r _ [42, 43, 18] (by eq_refl) (by decide +kernel)) ggX7_period_X6_periodBySteps
set_option maxRecDepth 20000 in
theorem ggX7_period_X7_periodByFactors : GoodIn wsX7_period wsX7_periodByFactors := goodIn_r _ [62, 63, 64, 65, 66, 67, 68, 69, 70, 71, 72, 73, 74, 75, 76, 77, 21, 22, 23, 24, 25, 26, 27, 28, 29, 30, 78, 79, 80, 81, 38, 39, 40, 41, 32, 33, 82, 83, 84, 85, 86, 87, 88, 89, 90, 91, 18, 92, 93, 94, 95, 96, 97, 98, 99, 100, 101, 35, 36, 37, 102, 103, 104, 105, 106, 107, 108, 109, 110, 111, 112, 113, 114, 115, 116, 117, 118, 119, 120] (by eq_refl) gw_wsX7_periodByFactors
set_option maxRecDepth 20000 in
theorem gX7_period_X7_periodByFactors : GoodIn wsX7_period (wsV RX7 259 RX7 yX7_periodByFactors wsX7_periodByFactors) := goodIn_app (goodIn_r _ [59, 60, 61, 4] (by eq_refl) (by decide +kernel)) ggX7_period_X7_periodByFactors
set_option maxRecDepth 20000 in
theorem ggX7_rollText_X7_testRolled : GoodIn wsX7_rollText wsX7_testRolled := goodIn_ca (goodIn_r _ [6, 7, 8, 1, 9, 10, 5, 11, 255, 256, 257, 258, 259, 260, 261, 262, 263, 264, 265, 266, 267] (by eq_refl) (by decide +kernel)) (goodIn_sub (fun _ h => List.mem_cons_of_mem _ (List.mem_append_right _ h)) (by decide +kernel))
set_option maxRecDepth 20000 in
theorem gX7_rollText_X7_testRolled : GoodIn wsX7_rollText (wsV RX7 183 RX7 yX7_testRolled wsX7_testRolled) := goodIn_app (goodIn_r _ [2, 3, 4, 5] (by eq_refl) (by decide +kernel)) ggX7_rollText_X7_testRolled
set_option maxRecDepth 20000 in
theorem ggX7_rollText_X3_at : GoodIn wsX7_rollText wsX3_at := goodIn_r _ [16, 17, 18, 265, 266, 267] (by eq_refl) gw_wsX3_at
set_option maxRecDepth 20000 in
theorem gX7_rollText_X3_at : GoodIn wsX7_rollText (wsV RX7 186 RX3 yX3_at wsX3_at) := goodIn_app (goodIn_r _ [12, 13, 14, 15] (by eq_refl) (by decide +kernel)) ggX7_rollText_X3_at
set_option maxRecDepth 20000 in
theorem ggX7_rollText_X0_textOf : GoodIn wsX7_rollText wsX0_textOf := goodIn_r _ [22, 23, 24, 25, 26, 27, 28, 29, 30, 31, 32, 33, 34, 35, 36, 37, 38, 39, 40, 41, 42, 43, 44, 45, 46, 47, 48, 49, 21, 50, 51, 52, 53, 54, 55, 56, 57, 58, 59, 60, 61, 62, 63, 64, 65, 66, 67, 68, 69, 70, 71, 72, 73, 74, 75, 76, 77, 78, 79, 80, 81, 82, 83, 84, 85, 86, 87, 88, 89, 90, 91, 92, 93, 94, 95, 96, 97, 98, 99, 100, 101, 102, 103, 104, 105, 106, 107, 108, 109, 110, 111, 112, 113, 114, 115, 116, 117, 118, 119, 120, 121, 122, 123, 124, 125, 126, 127, 128, 129, 130, 131, 132, 133, 134, 135, 136, 137, 138, 139, 140, 141, 142, 143, 144, 145, 146, 147, 148, 149, 150, 151, 152, 153, 154, 155, 156, 157, 158, 159, 160, 161, 162, 163, 164, 165, 166, 167, 168, 169, 170, 171, 172, 173, 174, 175, 176, 177, 178, 179, 180, 181, 182, 183, 184, 185, 186, 187, 188, 189, 190, 191, 192, 193, 194, 195, 196, 197, 198, 199, 200, 201, 202, 203, 204, 205, 206, 207, 208, 209, 210, 211, 212, 213, 214, 215, 216, 217, 218, 219, 220, 221, 222, 223, 224, 225, 226, 227, 228, 229, 230, 231, 232, 233, 234, 235, 236, 237, 238, 239, 240, 241, 242, 243, 244, 245, 246, 247, 248, 249, 250, 251, 252, 253, 254, 268, 269, 270, 271, 272, 273, 274, 275] (by eq_refl) gw_wsX0_textOf
set_option maxRecDepth 20000 in
theorem gX7_rollText_X0_textOf : GoodIn wsX7_rollText (va_wsS RX7 230 yX0_textOf wsX0_textOf) := goodIn_app (goodIn_r _ [19, 20, 21] (by eq_refl) (by decide +kernel)) ggX7_rollText_X0_textOf
set_option maxRecDepth 20000 in
theorem ggX7_rowText_X5_cellDigits : GoodIn wsX7_rowText wsX5_cellDigits := goodIn_r _ [6, 7, 8, 9, 10, 11, 12, 13, 14, 15, 16, 17, 18, 19, 20, 21, 22, 23, 24, 25, 26, 27, 28, 29, 30, 31, 32, 33, 34, 35, 36, 37, 38, 39, 40, 41, 42, 43, 44, 45, 46, 47, 48, 49, 50, 51, 52, 53, 54, 55, 56, 57, 58, 59, 60, 61, 62, 63, 64, 65, 66, 67, 68, 69, 70, 71, 72, 73, 74, 75, 76, 77, 78, 79, 80, 81, 82, 83, 84, 85, 86, 87, 88, 89, 90, 91, 92, 93, 94, 95, 96, 97, 98, 99, 100, 101, 102, 103, 104, 105, 106, 107, 108, 109, 110, 111, 112, 113, 114, 115, 116, 117, 118, 119, 120, 121, 122, 123, 124, 125, 126, 127, 128, 129, 130, 131, 132, 133, 134, 135, 136, 137, 138, 139, 140, 141, 142, 143, 144, 145, 146, 147, 148, 149, 150, 151, 152, 153, 154, 155, 156, 157, 158, 159, 160, 161, 162, 163, 164, 165, 166, 167, 168, 169, 170, 171, 172, 173, 174, 175, 176, 177, 178, 179, 180, 181, 182, 183, 184, 185, 186, 187, 188, 189, 190, 191, 192, 193, 194, 195, 196, 197, 198, 199, 200, 201, 202, 203, 204, 205, 216, 217, 218, 219, 220, 221, 222, 223, 224, 225] (by eq_refl) gw_wsX5_cellDigits
set_option maxRecDepth 20000 in
theorem gX7_rowText_X5_cellDigits : GoodIn wsX7_rowText (wsV RX7 262 RX5 yX5_cellDigits wsX5_cellDigits) := goodIn_app (goodIn_r _ [2, 3, 4, 5] (by eq_refl) (by decide +kernel)) ggX7_rowText_X5_cellDigits
set_option maxRecDepth 20000 in
theorem ggX7_again_X5_stepsTillSame : GoodIn wsX7_again wsX5_stepsTillSame := goodIn_r _ [5, 6, 7, 4, 8, 9, 10, 11, 12, 13, 14, 15, 16, 17, 18, 19, 20, 21, 22] (by eq_refl) gw_wsX5_stepsTillSame
set_option maxRecDepth 20000 in
theorem gX7_again_X5_stepsTillSame : GoodIn wsX7_again (va_wsS RX7 266 yX5_stepsTillSame wsX5_stepsTillSame) := goodIn_app (goodIn_r _ [2, 3, 4] (by eq_refl) (by decide +kernel)) ggX7_again_X5_stepsTillSame
set_option maxRecDepth 20000 in
theorem ggX7_house_X7_testRange : GoodIn wsX7_house wsX7_testRange := goodIn_ca (goodIn_r _ [9, 10, 11, 12, 13, 8, 14] (by eq_refl) (by decide +kernel)) (goodIn_sub (fun _ h => List.mem_cons_of_mem _ (List.mem_append_right _ h)) (by decide +kernel))
set_option maxRecDepth 20000 in
theorem gX7_house_X7_testRange : GoodIn wsX7_house (va_wsS RX7 62 yX7_testRange wsX7_testRange) := goodIn_app (goodIn_r _ [6, 7, 8] (by eq_refl) (by decide +kernel)) ggX7_house_X7_testRange
set_option maxRecDepth 20000 in
theorem ggX7_house_X7_onesOfAll : GoodIn wsX7_house wsX7_onesOfAll := goodIn_r _ [18, 19, 20, 21, 22, 23, 24, 25, 26, 27, 28, 29, 30, 31, 32, 33, 34, 35, 36, 37, 38, 39, 40] (by eq_refl) gw_wsX7_onesOfAll
set_option maxRecDepth 20000 in
theorem gX7_house_X7_onesOfAll : GoodIn wsX7_house (wsV RX7 270 RX7 yX7_onesOfAll wsX7_onesOfAll) := goodIn_app (goodIn_r _ [15, 16, 17, 8] (by eq_refl) (by decide +kernel)) ggX7_house_X7_onesOfAll
set_option maxRecDepth 20000 in
theorem ggX7_isSound_X7_isProductSound : GoodIn wsX7_isSound wsX7_isProductSound := goodIn_r _ [11, 12, 13, 14, 15, 16, 17, 18, 19, 20, 21, 22, 23, 24, 25, 26, 27, 28, 29, 30, 31, 32, 33, 34, 35, 36, 37] (by eq_refl) gw_wsX7_isProductSound
set_option maxRecDepth 20000 in
theorem gX7_isSound_X7_isProductSound : GoodIn wsX7_isSound (wsV RX7 275 RX7 yX7_isProductSound wsX7_isProductSound) := goodIn_app (goodIn_r _ [7, 8, 9, 10] (by eq_refl) (by decide +kernel)) ggX7_isSound_X7_isProductSound
set_option maxRecDepth 20000 in
theorem ggX7_isSound_X7_isCommonSound : GoodIn wsX7_isSound wsX7_isCommonSound := goodIn_r _ [41, 42, 43, 44, 14, 45, 46, 36, 37, 16, 17, 18, 19, 20, 21, 22, 23, 24, 25, 26, 27, 28, 47, 48, 49, 50, 51, 52, 53, 54, 55, 56, 57, 58, 33, 34, 59, 60, 61, 62, 63, 13, 15, 12, 64, 65, 66, 174, 175, 176, 177, 178, 179, 180, 181, 182, 183, 186, 187, 188, 189, 190, 191] (by eq_refl) gw_wsX7_isCommonSound
set_option maxRecDepth 20000 in
theorem gX7_isSound_X7_isCommonSound : GoodIn wsX7_isSound (wsV RX7 278 RX7 yX7_isCommonSound wsX7_isCommonSound) := goodIn_app (goodIn_r _ [38, 39, 40, 10] (by eq_refl) (by decide +kernel)) ggX7_isSound_X7_isCommonSound
set_option maxRecDepth 20000 in
theorem ggX7_isSound_X6_isWheel : GoodIn wsX7_isSound wsX6_isWheel := goodIn_r _ [70, 71, 17, 14, 18, 19, 20, 21, 22, 23, 24, 25, 72, 10, 73, 74, 27, 28] (by eq_refl) gw_wsX6_isWheel
set_option maxRecDepth 20000 in
theorem gX7_isSound_X6_isWheel : GoodIn wsX7_isSound (va_wsS RX7 209 yX6_isWheel wsX6_isWheel) := goodIn_app (goodIn_r _ [67, 68, 69] (by eq_refl) (by decide +kernel)) ggX7_isSound_X6_isWheel
set_option maxRecDepth 20000 in
theorem ggX7_isSound_X0_degreeOf : GoodIn wsX7_isSound wsX0_degreeOf := goodIn_r _ [18, 19, 20, 21, 22, 23, 24, 25] (by eq_refl) gw_wsX0_degreeOf
set_option maxRecDepth 20000 in
theorem gX7_isSound_X0_degreeOf : GoodIn wsX7_isSound (va_wsS RX7 66 yX0_degreeOf wsX0_degreeOf) := goodIn_app (goodIn_r _ [75, 17, 14] (by eq_refl) (by decide +kernel)) ggX7_isSound_X0_degreeOf
set_option maxRecDepth 20000 in
theorem ggX7_isSound_X1_findByTrying : GoodIn wsX7_isSound wsX1_findByTrying := goodIn_r _ [80, 81, 82, 83, 84, 85, 86, 87, 88, 17, 14, 18, 19, 20, 21, 22, 23, 24, 25, 89, 65, 66, 46, 36, 37, 16, 26, 27, 28, 90, 91, 92, 93, 94, 95, 33, 34, 192, 193, 194] (by eq_refl) gw_wsX1_findByTrying
set_option maxRecDepth 20000 in
theorem gX7_isSound_X1_findByTrying : GoodIn wsX7_isSound (wsV RX7 165 RX1 yX1_findByTrying wsX1_findByTrying) := goodIn_app (goodIn_r _ [76, 77, 78, 79] (by eq_refl) (by decide +kernel)) ggX7_isSound_X1_findByTrying
set_option maxRecDepth 20000 in
theorem ggX7_isSound_X1_findByDegrees : GoodIn wsX7_isSound wsX1_findByDegrees := goodIn_r _ [99, 81, 100, 82, 83, 84, 85, 86, 87, 88, 17, 14, 18, 19, 20, 21, 22, 23, 24, 25, 101, 102, 103, 104, 46, 36, 37, 16, 26, 27, 28, 105, 30, 31, 106, 44, 45, 107, 108, 109, 79, 110, 90, 91, 92, 93, 94, 111, 112, 113, 114, 115, 116, 117, 118, 119, 120, 121, 95, 33, 34, 122, 123, 124, 89, 65, 66, 195, 192, 193, 194] (by eq_refl) gw_wsX1_findByDegrees
set_option maxRecDepth 20000 in
theorem gX7_isSound_X1_findByDegrees : GoodIn wsX7_isSound (wsV RX7 169 RX1 yX1_findByDegrees wsX1_findByDegrees) := goodIn_app (goodIn_r _ [96, 97, 98, 79] (by eq_refl) (by decide +kernel)) ggX7_isSound_X1_findByDegrees
set_option maxRecDepth 20000 in
theorem ggX7_isSound_X3_arrange : GoodIn wsX7_isSound wsX3_arrange := goodIn_r _ [128, 94, 129, 130, 131, 132, 133, 87, 134, 135, 136, 85, 137, 192, 193, 194] (by eq_refl) gw_wsX3_arrange
set_option maxRecDepth 20000 in
theorem gX7_isSound_X3_arrange : GoodIn wsX7_isSound (wsV RX7 172 RX3 yX3_arrange wsX3_arrange) := goodIn_app (goodIn_r _ [125, 126, 127, 85] (by eq_refl) (by decide +kernel)) ggX7_isSound_X3_arrange
set_option maxRecDepth 20000 in
theorem ggX7_isSound_X3_isSameAs : GoodIn wsX7_isSound wsX3_isSameAs := goodIn_r _ [141, 87, 94, 192, 193, 194] (by eq_refl) gw_wsX3_isSameAs
set_option maxRecDepth 20000 in
theorem gX7_isSound_X3_isSameAs : GoodIn wsX7_isSound (wsV RX7 281 RX3 yX3_isSameAs wsX3_isSameAs) := goodIn_app (goodIn_r _ [138, 139, 140, 85] (by eq_refl) (by decide +kernel)) ggX7_isSound_X3_isSameAs
set_option maxRecDepth 20000 in
theorem ggX7_isSound_X3_multipliedAll : GoodIn wsX7_isSound wsX3_multipliedAll := goodIn_r _ [145, 87, 94, 146, 147, 148, 85, 149, 150, 13, 14, 15, 16, 17, 18, 19, 20, 21, 22, 23, 24, 25, 26, 27, 28, 192, 193, 194] (by eq_refl) gw_wsX3_multipliedAll
set_option maxRecDepth 20000 in
theorem gX7_isSound_X3_multipliedAll : GoodIn wsX7_isSound (wsV RX7 205 RX3 yX3_multipliedAll wsX3_multipliedAll) := goodIn_app (goodIn_r _ [142, 143, 144, 85] (by eq_refl) (by decide +kernel)) ggX7_isSound_X3_multipliedAll
set_option maxRecDepth 20000 in
theorem ggX7_isSound_X6_periodByMultiplying : GoodIn wsX7_isSound wsX6_periodByMultiplying := goodIn_r _ [153, 154, 36, 14, 37, 16, 17, 18, 19, 20, 21, 22, 23, 24, 25, 26, 27, 28] (by eq_refl) gw_wsX6_periodByMultiplying
set_option maxRecDepth 20000 in
theorem gX7_isSound_X6_periodByMultiplying : GoodIn wsX7_isSound (va_wsS RX7 253 yX6_periodByMultiplying wsX6_periodByMultiplying) := goodIn_app (goodIn_r _ [151, 152, 69] (by eq_refl) (by decide +kernel)) ggX7_isSound_X6_periodByMultiplying
set_option maxRecDepth 20000 in
theorem ggX7_isSound_X7_periodByFactors : GoodIn wsX7_isSound wsX7_periodByFactors := goodIn_r _ [158, 4, 5, 76, 77, 78, 79, 80, 81, 82, 83, 84, 85, 86, 87, 88, 17, 14, 18, 19, 20, 21, 22, 23, 24, 25, 89, 65, 66, 46, 36, 37, 16, 26, 27, 28, 90, 91, 92, 93, 94, 95, 33, 34, 159, 160, 69, 161, 162, 163, 164, 165, 166, 112, 113, 114, 167, 152, 153, 154, 168, 169, 170, 171, 172, 173, 174, 175, 176, 177, 178, 179, 180, 181, 182, 183, 192, 193, 194] (by eq_refl) gw_wsX7_periodByFactors
set_option maxRecDepth 20000 in
theorem gX7_isSound_X7_periodByFactors : GoodIn wsX7_isSound (wsV RX7 259 RX7 yX7_periodByFactors wsX7_periodByFactors) := goodIn_app (goodIn_r _ [155, 156, 157, 10] (by eq_refl) (by decide +kernel)) ggX7_isSound_X7_periodByFactors
set_option maxRecDepth 20000 in
theorem ggX7_digest_X7_digestOfForm : GoodIn wsX7_digest wsX7_digestOfForm := goodIn_r _ [8, 9, 10, 11, 12, 13, 14, 15, 16, 17, 18, 19, 20, 21, 7, 22, 23, 24, 25, 26, 27, 28, 29, 30] (by eq_refl) gw_wsX7_digestOfForm
set_option maxRecDepth 20000 in
theorem gX7_digest_X7_digestOfForm : GoodIn wsX7_digest (va_wsS RX7 287 yX7_digestOfForm wsX7_digestOfForm) := goodIn_app (goodIn_r _ [5, 6, 7] (by eq_refl) (by decide +kernel)) ggX7_digest_X7_digestOfForm
set_option maxRecDepth 20000 in
theorem ggX7_digest_X7_mixed : GoodIn wsX7_digest wsX7_mixed := goodIn_r _ [22, 23] (by eq_refl) gw_wsX7_mixed
set_option maxRecDepth 20000 in
theorem gX7_digest_X7_mixed : GoodIn wsX7_digest (va_wsS RX7 290 yX7_mixed wsX7_mixed) := goodIn_app (goodIn_r _ [20, 21, 7] (by eq_refl) (by decide +kernel)) ggX7_digest_X7_mixed
set_option maxRecDepth 20000 in
theorem ggX7_digest_X3_at : GoodIn wsX7_digest wsX3_at := goodIn_r _ [35, 36, 37, 222, 223, 224] (by eq_refl) gw_wsX3_at
set_option maxRecDepth 20000 in
theorem gX7_digest_X3_at : GoodIn wsX7_digest (wsV RX7 186 RX3 yX3_at wsX3_at) := goodIn_app (goodIn_r _ [31, 32, 33, 34] (by eq_refl) (by decide +kernel)) ggX7_digest_X3_at
set_option maxRecDepth 20000 in
theorem ggX7_digest_X0_degreeOf : GoodIn wsX7_digest wsX0_degreeOf := goodIn_r _ [12, 13, 14, 15, 16, 17, 18, 19] (by eq_refl) gw_wsX0_degreeOf
set_option maxRecDepth 20000 in
theorem gX7_digest_X0_degreeOf : GoodIn wsX7_digest (va_wsS RX7 66 yX0_degreeOf wsX0_degreeOf) := goodIn_app (goodIn_r _ [9, 10, 11] (by eq_refl) (by decide +kernel)) ggX7_digest_X0_degreeOf
set_option maxRecDepth 20000 in
theorem ggX7_digest_X0_onesOf : GoodIn wsX7_digest wsX0_onesOf := goodIn_r _ [40, 13, 14, 15, 16, 17, 18, 19] (by eq_refl) gw_wsX0_onesOf
set_option maxRecDepth 20000 in
theorem gX7_digest_X0_onesOf : GoodIn wsX7_digest (va_wsS RX7 83 yX0_onesOf wsX0_onesOf) := goodIn_app (goodIn_r _ [38, 39, 11] (by eq_refl) (by decide +kernel)) ggX7_digest_X0_onesOf
set_option maxRecDepth 20000 in
theorem ggX7_digest_X0_hasOne : GoodIn wsX7_digest wsX0_hasOne := goodIn_r _ [30] (by eq_refl) gw_wsX0_hasOne
set_option maxRecDepth 20000 in
theorem gX7_digest_X0_hasOne : GoodIn wsX7_digest (va_wsS RX7 79 yX0_hasOne wsX0_hasOne) := goodIn_app (goodIn_r _ [28, 29, 11] (by eq_refl) (by decide +kernel)) ggX7_digest_X0_hasOne
set_option maxRecDepth 20000 in
theorem ggX7_digest_X7_house : GoodIn wsX7_digest wsX7_house := goodIn_ca (goodIn_r _ [44, 45, 46, 47, 3, 4, 48, 49, 7, 50, 51, 52, 53, 54, 55, 56, 57, 58, 59, 2, 38, 39, 11, 40, 13, 14, 15, 16, 17, 18, 19, 212, 213, 214, 215, 216, 217, 218, 219, 220, 221, 222, 223, 224, 225, 226] (by eq_refl) (by decide +kernel)) (goodIn_sub (fun _ h => List.mem_cons_of_mem _ (List.mem_append_right _ h)) (by decide +kernel))
set_option maxRecDepth 20000 in
theorem gX7_digest_X7_house : GoodIn wsX7_digest (wsV RX7 293 RX7 yX7_house wsX7_house) := goodIn_app (goodIn_r _ [41, 42, 43, 7] (by eq_refl) (by decide +kernel)) ggX7_digest_X7_house
set_option maxRecDepth 20000 in
theorem ggX7_digest_X7_isSound : GoodIn wsX7_digest wsX7_isSound := goodIn_r _ [63, 2, 64, 4, 65, 66, 67, 68, 69, 70, 7, 71, 72, 73, 11, 74, 27, 10, 12, 13, 14, 15, 16, 17, 18, 19, 75, 29, 30, 76, 77, 78, 79, 80, 81, 82, 83, 84, 85, 86, 87, 88, 89, 90, 91, 92, 93, 94, 95, 96, 97, 98, 99, 100, 101, 102, 103, 104, 105, 106, 107, 108, 109, 110, 111, 112, 113, 114, 115, 116, 117, 118, 54, 55, 119, 9, 120, 121, 122, 123, 124, 125, 126, 127, 128, 34, 129, 36, 130, 131, 132, 133, 134, 135, 37, 136, 137, 138, 139, 140, 141, 142, 143, 144, 145, 146, 147, 148, 149, 150, 151, 152, 32, 33, 35, 153, 154, 155, 156, 157, 158, 159, 160, 161, 162, 163, 164, 165, 166, 167, 168, 169, 170, 171, 172, 173, 174, 175, 176, 177, 178, 179, 180, 181, 182, 183, 184, 185, 186, 187, 188, 189, 190, 191, 192, 193, 194, 195, 196, 197, 198, 199, 200, 201, 202, 203, 204, 205, 206, 207, 208, 209, 210, 211, 212, 213, 214, 215, 216, 217, 218, 219, 220, 221, 225, 226, 227, 228, 229, 230, 231, 232, 222, 223, 224, 233] (by eq_refl) gw_wsX7_isSound
set_option maxRecDepth 20000 in
theorem gX7_digest_X7_isSound : GoodIn wsX7_digest (wsV RX7 296 RX7 yX7_isSound wsX7_isSound) := goodIn_app (goodIn_r _ [60, 61, 62, 7] (by eq_refl) (by decide +kernel)) ggX7_digest_X7_isSound
set_option maxRecDepth 20000 in
theorem ggX7_testForm_X7_isBetween : GoodIn wsX7_testForm wsX7_isBetween := goodIn_r _ [6] (by eq_refl) gw_wsX7_isBetween
set_option maxRecDepth 20000 in
theorem gX7_testForm_X7_isBetween : GoodIn wsX7_testForm (va_wsS RX7 161 yX7_isBetween wsX7_isBetween) := goodIn_app (goodIn_r _ [3, 4, 5] (by eq_refl) (by decide +kernel)) ggX7_testForm_X7_isBetween
set_option maxRecDepth 20000 in
theorem ggX7_testForms_X7_testForm : GoodIn wsX7_testForms wsX7_testForm := goodIn_ca (goodIn_r _ [4, 5, 6, 7, 8, 3, 9] (by eq_refl) (by decide +kernel)) (goodIn_sub (fun _ h => List.mem_cons_of_mem _ (List.mem_append_right _ h)) (by decide +kernel))
set_option maxRecDepth 20000 in
theorem gX7_testForms_X7_testForm : GoodIn wsX7_testForms (va_wsS RX7 57 yX7_testForm wsX7_testForm) := goodIn_app (goodIn_r _ [1, 2, 3] (by eq_refl) (by decide +kernel)) ggX7_testForms_X7_testForm
set_option maxRecDepth 20000 in
theorem ggX7_testPlace_X7_isBetween : GoodIn wsX7_testPlace wsX7_isBetween := goodIn_r _ [6] (by eq_refl) gw_wsX7_isBetween
set_option maxRecDepth 20000 in
theorem gX7_testPlace_X7_isBetween : GoodIn wsX7_testPlace (va_wsS RX7 161 yX7_isBetween wsX7_isBetween) := goodIn_app (goodIn_r _ [3, 4, 5] (by eq_refl) (by decide +kernel)) ggX7_testPlace_X7_isBetween
set_option maxRecDepth 20000 in
theorem ggX7_testRolled_X7_isBetween : GoodIn wsX7_testRolled wsX7_isBetween := goodIn_r _ [7] (by eq_refl) gw_wsX7_isBetween
set_option maxRecDepth 20000 in
theorem gX7_testRolled_X7_isBetween : GoodIn wsX7_testRolled (va_wsS RX7 161 yX7_isBetween wsX7_isBetween) := goodIn_app (goodIn_r _ [4, 5, 6] (by eq_refl) (by decide +kernel)) ggX7_testRolled_X7_isBetween
set_option maxRecDepth 20000 in
theorem ggX7_testRange_X7_isBetween : GoodIn wsX7_testRange wsX7_isBetween := goodIn_r _ [6] (by eq_refl) gw_wsX7_isBetween
set_option maxRecDepth 20000 in
theorem gX7_testRange_X7_isBetween : GoodIn wsX7_testRange (va_wsS RX7 161 yX7_isBetween wsX7_isBetween) := goodIn_app (goodIn_r _ [3, 4, 5] (by eq_refl) (by decide +kernel)) ggX7_testRange_X7_isBetween
set_option maxRecDepth 20000 in
theorem ggX7_become_X0_degreeOf : GoodIn wsX7_become wsX0_degreeOf := goodIn_r _ [5, 6, 7, 8, 9, 10, 11, 12] (by eq_refl) gw_wsX0_degreeOf
set_option maxRecDepth 20000 in
theorem gX7_become_X0_degreeOf : GoodIn wsX7_become (va_wsS RX7 66 yX0_degreeOf wsX0_degreeOf) := goodIn_app (goodIn_r _ [2, 3, 4] (by eq_refl) (by decide +kernel)) ggX7_become_X0_degreeOf
set_option maxRecDepth 20000 in
theorem ggX7_become_X7_done : GoodIn wsX7_become wsX7_done := goodIn_r _ [17, 18, 19, 20, 21, 22, 23, 24, 25, 26, 27, 28] (by eq_refl) gw_wsX7_done
set_option maxRecDepth 20000 in
theorem gX7_become_X7_done : GoodIn wsX7_become (wsV RX7 72 RX7 yX7_done wsX7_done) := goodIn_app (goodIn_r _ [13, 14, 15, 16] (by eq_refl) (by decide +kernel)) ggX7_become_X7_done
set_option maxRecDepth 20000 in
theorem ggX7_canBeSealed_X0_degreeOf : GoodIn wsX7_canBeSealed wsX0_degreeOf := goodIn_r _ [5, 6, 7, 8, 9, 10, 11, 12] (by eq_refl) gw_wsX0_degreeOf
set_option maxRecDepth 20000 in
theorem gX7_canBeSealed_X0_degreeOf : GoodIn wsX7_canBeSealed (va_wsS RX7 66 yX0_degreeOf wsX0_degreeOf) := goodIn_app (goodIn_r _ [2, 3, 4] (by eq_refl) (by decide +kernel)) ggX7_canBeSealed_X0_degreeOf
set_option maxRecDepth 20000 in
theorem ggX7_onesOfAll_X0_onesOf : GoodIn wsX7_onesOfAll wsX0_onesOf := goodIn_r _ [5, 6, 7, 8, 9, 10, 11, 12] (by eq_refl) gw_wsX0_onesOf
set_option maxRecDepth 20000 in
theorem gX7_onesOfAll_X0_onesOf : GoodIn wsX7_onesOfAll (va_wsS RX7 83 yX0_onesOf wsX0_onesOf) := goodIn_app (goodIn_r _ [2, 3, 4] (by eq_refl) (by decide +kernel)) ggX7_onesOfAll_X0_onesOf
set_option maxRecDepth 20000 in
theorem ggX7_periodByFactors_X1_findByTrying : GoodIn wsX7_periodByFactors wsX1_findByTrying := goodIn_r _ [7, 8, 9, 10, 11, 12, 13, 14, 15, 16, 17, 18, 19, 20, 21, 22, 23, 24, 25, 26, 27, 28, 29, 30, 31, 32, 33, 34, 35, 36, 37, 38, 39, 40, 41, 42, 43, 76, 77, 78] (by eq_refl) gw_wsX1_findByTrying
set_option maxRecDepth 20000 in
theorem gX7_periodByFactors_X1_findByTrying : GoodIn wsX7_periodByFactors (wsV RX7 165 RX1 yX1_findByTrying wsX1_findByTrying) := goodIn_app (goodIn_r _ [3, 4, 5, 6] (by eq_refl) (by decide +kernel)) ggX7_periodByFactors_X1_findByTrying
set_option maxRecDepth 20000 in
theorem ggX7_periodByFactors_X6_periodByFactors : GoodIn wsX7_periodByFactors wsX6_periodByFactors := goodIn_r _ [47, 48, 49, 50, 51, 52, 53, 54, 12, 55, 14, 40, 56, 57, 46, 58, 59, 30, 17, 31, 32, 16, 18, 19, 20, 21, 22, 23, 24, 25, 33, 34, 35, 60, 61, 62, 63, 64, 65, 76, 77, 78] (by eq_refl) gw_wsX6_periodByFactors
set_option maxRecDepth 20000 in
theorem gX7_periodByFactors_X6_periodByFactors : GoodIn wsX7_periodByFactors (va_wsS RX7 310 yX6_periodByFactors wsX6_periodByFactors) := goodIn_app (goodIn_r _ [44, 45, 46] (by eq_refl) (by decide +kernel)) ggX7_periodByFactors_X6_periodByFactors
set_option maxRecDepth 20000 in
theorem ggX7_isProductSound_X0_multiplied : GoodIn wsX7_isProductSound wsX0_multiplied := goodIn_r _ [4, 5, 6, 3, 7, 8, 9, 10, 11, 12, 13, 14, 15, 16, 17] (by eq_refl) gw_wsX0_multiplied
set_option maxRecDepth 20000 in
theorem gX7_isProductSound_X0_multiplied : GoodIn wsX7_isProductSound (va_wsS RX7 107 yX0_multiplied wsX0_multiplied) := goodIn_app (goodIn_r _ [1, 2, 3] (by eq_refl) (by decide +kernel)) ggX7_isProductSound_X0_multiplied
set_option maxRecDepth 20000 in
theorem ggX7_isProductSound_X0_squared : GoodIn wsX7_isProductSound wsX0_squared := goodIn_r _ [20, 5, 6, 3, 7, 8, 9, 10, 11, 12, 13, 14] (by eq_refl) gw_wsX0_squared
set_option maxRecDepth 20000 in
theorem gX7_isProductSound_X0_squared : GoodIn wsX7_isProductSound (va_wsS RX7 111 yX0_squared wsX0_squared) := goodIn_app (goodIn_r _ [18, 19, 3] (by eq_refl) (by decide +kernel)) ggX7_isProductSound_X0_squared
set_option maxRecDepth 20000 in
theorem ggX7_isProductSound_X0_quotient : GoodIn wsX7_isProductSound wsX0_quotient := goodIn_r _ [23, 5, 6, 3, 7, 8, 9, 10, 11, 12, 13, 14, 15, 16, 17] (by eq_refl) gw_wsX0_quotient
set_option maxRecDepth 20000 in
theorem gX7_isProductSound_X0_quotient : GoodIn wsX7_isProductSound (va_wsS RX7 114 yX0_quotient wsX0_quotient) := goodIn_app (goodIn_r _ [21, 22, 3] (by eq_refl) (by decide +kernel)) ggX7_isProductSound_X0_quotient
set_option maxRecDepth 20000 in
theorem ggX7_isProductSound_X0_rest : GoodIn wsX7_isProductSound wsX0_rest := goodIn_r _ [26, 5, 6, 3, 7, 8, 9, 10, 11, 12, 13, 14, 15, 16, 17] (by eq_refl) gw_wsX0_rest
set_option maxRecDepth 20000 in
theorem gX7_isProductSound_X0_rest : GoodIn wsX7_isProductSound (va_wsS RX7 117 yX0_rest wsX0_rest) := goodIn_app (goodIn_r _ [24, 25, 3] (by eq_refl) (by decide +kernel)) ggX7_isProductSound_X0_rest
set_option maxRecDepth 20000 in
theorem ggX7_isCommonSound_X0_greatestBoth : GoodIn wsX7_isCommonSound wsX0_greatestBoth := goodIn_r _ [5, 6, 7, 4, 8, 9, 10, 11, 12, 13, 14, 15, 16, 17, 18, 19, 20, 21] (by eq_refl) gw_wsX0_greatestBoth
set_option maxRecDepth 20000 in
theorem gX7_isCommonSound_X0_greatestBoth : GoodIn wsX7_isCommonSound (va_wsS RX7 120 yX0_greatestBoth wsX0_greatestBoth) := goodIn_app (goodIn_r _ [2, 3, 4] (by eq_refl) (by decide +kernel)) ggX7_isCommonSound_X0_greatestBoth
set_option maxRecDepth 20000 in
theorem ggX7_isCommonSound_X4_workOut : GoodIn wsX7_isCommonSound wsX4_workOut := goodIn_r _ [26, 27, 28, 29, 30, 31, 32, 33, 34, 4, 35, 9, 10, 11, 12, 13, 14, 15, 16, 17, 18, 19, 20, 21, 36, 37, 38, 25, 39, 40, 41, 42, 57, 58, 59, 60, 61, 62] (by eq_refl) gw_wsX4_workOut
set_option maxRecDepth 20000 in
theorem gX7_isCommonSound_X4_workOut : GoodIn wsX7_isCommonSound (wsV RX7 130 RX4 yX4_workOut wsX4_workOut) := goodIn_app (goodIn_r _ [22, 23, 24, 25] (by eq_refl) (by decide +kernel)) ggX7_isCommonSound_X4_workOut
set_option maxRecDepth 20000 in
theorem ggX7_isCommonSound_X0_multiplied : GoodIn wsX7_isCommonSound wsX0_multiplied := goodIn_r _ [42, 9, 10, 4, 11, 12, 13, 14, 15, 16, 17, 18, 19, 20, 21] (by eq_refl) gw_wsX0_multiplied
set_option maxRecDepth 20000 in
theorem gX7_isCommonSound_X0_multiplied : GoodIn wsX7_isCommonSound (va_wsS RX7 107 yX0_multiplied wsX0_multiplied) := goodIn_app (goodIn_r _ [43, 41, 4] (by eq_refl) (by decide +kernel)) ggX7_isCommonSound_X0_multiplied
set_option maxRecDepth 20000 in
theorem ggX7_isCommonSound_X0_goesInto : GoodIn wsX7_isCommonSound wsX0_goesInto := goodIn_r _ [46, 6, 7, 4, 8, 9, 10, 11, 12, 13, 14, 15, 16, 17, 18, 19, 20, 21] (by eq_refl) gw_wsX0_goesInto
set_option maxRecDepth 20000 in
theorem gX7_isCommonSound_X0_goesInto : GoodIn wsX7_isCommonSound (va_wsS RX7 234 yX0_goesInto wsX0_goesInto) := goodIn_app (goodIn_r _ [44, 45, 4] (by eq_refl) (by decide +kernel)) ggX7_isCommonSound_X0_goesInto
set_option maxRecDepth 20000 in
theorem ggX7_digestOfForm_X0_degreeOf : GoodIn wsX7_digestOfForm wsX0_degreeOf := goodIn_r _ [4, 5, 6, 7, 8, 9, 10, 11] (by eq_refl) gw_wsX0_degreeOf
set_option maxRecDepth 20000 in
theorem gX7_digestOfForm_X0_degreeOf : GoodIn wsX7_digestOfForm (va_wsS RX7 66 yX0_degreeOf wsX0_degreeOf) := goodIn_app (goodIn_r _ [1, 2, 3] (by eq_refl) (by decide +kernel)) ggX7_digestOfForm_X0_degreeOf
set_option maxRecDepth 20000 in
theorem ggX7_digestOfForm_X7_mixed : GoodIn wsX7_digestOfForm wsX7_mixed := goodIn_r _ [15, 16] (by eq_refl) gw_wsX7_mixed
set_option maxRecDepth 20000 in
theorem gX7_digestOfForm_X7_mixed : GoodIn wsX7_digestOfForm (va_wsS RX7 290 yX7_mixed wsX7_mixed) := goodIn_app (goodIn_r _ [12, 13, 14] (by eq_refl) (by decide +kernel)) ggX7_digestOfForm_X7_mixed
set_option maxRecDepth 20000 in
theorem ggX7_digestOfForm_X0_lowestOf : GoodIn wsX7_digestOfForm wsX0_lowestOf := goodIn_r _ [19, 20, 2, 3, 4, 5, 6, 7, 8, 9, 10, 11] (by eq_refl) gw_wsX0_lowestOf
set_option maxRecDepth 20000 in
theorem gX7_digestOfForm_X0_lowestOf : GoodIn wsX7_digestOfForm (va_wsS RX7 227 yX0_lowestOf wsX0_lowestOf) := goodIn_app (goodIn_r _ [17, 18, 3] (by eq_refl) (by decide +kernel)) ggX7_digestOfForm_X0_lowestOf
set_option maxRecDepth 20000 in
theorem ggX7_digestOfForm_X0_hasOne : GoodIn wsX7_digestOfForm wsX0_hasOne := goodIn_r _ [23] (by eq_refl) gw_wsX0_hasOne
set_option maxRecDepth 20000 in
theorem gX7_digestOfForm_X0_hasOne : GoodIn wsX7_digestOfForm (va_wsS RX7 79 yX0_hasOne wsX0_hasOne) := goodIn_app (goodIn_r _ [21, 22, 3] (by eq_refl) (by decide +kernel)) ggX7_digestOfForm_X0_hasOne
set_option maxRecDepth 20000 in
theorem ggX9_degreeOf_J13_numberOfLeadingZeros_95d88 : GoodIn wsX9_degreeOf wsJ13_numberOfLeadingZeros_95d88 := goodIn_r _ [4, 5, 6, 7, 8, 9] (by eq_refl) gw_wsJ13_numberOfLeadingZeros_95d88
set_option maxRecDepth 20000 in
theorem gX9_degreeOf_J13_numberOfLeadingZeros_95d88 : GoodIn wsX9_degreeOf (va_wsS RX9 29 yJ13_numberOfLeadingZeros_95d88 wsJ13_numberOfLeadingZeros_95d88) := goodIn_app (goodIn_r _ [1, 2, 3] (by eq_refl) (by decide +kernel)) ggX9_degreeOf_J13_numberOfLeadingZeros_95d88
set_option maxRecDepth 20000 in
theorem ggX9_onesOf_J13_bitCount_95d88 : GoodIn wsX9_onesOf wsJ13_bitCount_95d88 := goodIn_r _ [4, 5, 6, 7] (by eq_refl) gw_wsJ13_bitCount_95d88
set_option maxRecDepth 20000 in
theorem gX9_onesOf_J13_bitCount_95d88 : GoodIn wsX9_onesOf (va_wsS RX9 35 yJ13_bitCount_95d88 wsJ13_bitCount_95d88) := goodIn_app (goodIn_r _ [1, 2, 3] (by eq_refl) (by decide +kernel)) ggX9_onesOf_J13_bitCount_95d88
set_option maxRecDepth 20000 in
theorem ggX9_lowestOf_J13_numberOfTrailingZeros_95d88 : GoodIn wsX9_lowestOf wsJ13_numberOfTrailingZeros_95d88 := goodIn_r _ [4, 5, 6, 7, 8, 9] (by eq_refl) gw_wsJ13_numberOfTrailingZeros_95d88
set_option maxRecDepth 20000 in
theorem gX9_lowestOf_J13_numberOfTrailingZeros_95d88 : GoodIn wsX9_lowestOf (va_wsS RX9 38 yJ13_numberOfTrailingZeros_95d88 wsJ13_numberOfTrailingZeros_95d88) := goodIn_app (goodIn_r _ [1, 2, 3] (by eq_refl) (by decide +kernel)) ggX9_lowestOf_J13_numberOfTrailingZeros_95d88
set_option maxRecDepth 20000 in
theorem ggX9_quotientOf_X9_degreeOf : GoodIn wsX9_quotientOf wsX9_degreeOf := goodIn_r _ [4, 5, 6, 7, 8, 9, 10, 11, 12, 13] (by eq_refl) gw_wsX9_degreeOf
set_option maxRecDepth 20000 in
theorem gX9_quotientOf_X9_degreeOf : GoodIn wsX9_quotientOf (va_wsS RX9 41 yX9_degreeOf wsX9_degreeOf) := goodIn_app (goodIn_r _ [1, 2, 3] (by eq_refl) (by decide +kernel)) ggX9_quotientOf_X9_degreeOf
set_option maxRecDepth 20000 in
theorem ggX9_restOf_X9_quotientOf : GoodIn wsX9_restOf wsX9_quotientOf := goodIn_r _ [4, 5, 6, 3, 7, 8, 9, 10, 11, 12, 13, 14, 15, 16] (by eq_refl) gw_wsX9_quotientOf
set_option maxRecDepth 20000 in
theorem gX9_restOf_X9_quotientOf : GoodIn wsX9_restOf (va_wsS RX9 44 yX9_quotientOf wsX9_quotientOf) := goodIn_app (goodIn_r _ [1, 2, 3] (by eq_refl) (by decide +kernel)) ggX9_restOf_X9_quotientOf
set_option maxRecDepth 20000 in
theorem ggX9_restOf_X9_productOf : GoodIn wsX9_restOf wsX9_productOf := goodIn_r _ [19] (by eq_refl) gw_wsX9_productOf
set_option maxRecDepth 20000 in
theorem gX9_restOf_X9_productOf : GoodIn wsX9_restOf (va_wsS RX9 48 yX9_productOf wsX9_productOf) := goodIn_app (goodIn_r _ [17, 18, 3] (by eq_refl) (by decide +kernel)) ggX9_restOf_X9_productOf
set_option maxRecDepth 20000 in
theorem ggX9_commonOf_X9_restOf : GoodIn wsX9_commonOf wsX9_restOf := goodIn_r _ [4, 5, 6, 3, 7, 8, 9, 10, 11, 12, 13, 14, 15, 16, 17, 18, 19, 20, 21, 22] (by eq_refl) gw_wsX9_restOf
set_option maxRecDepth 20000 in
theorem gX9_commonOf_X9_restOf : GoodIn wsX9_commonOf (va_wsS RX9 51 yX9_restOf wsX9_restOf) := goodIn_app (goodIn_r _ [1, 2, 3] (by eq_refl) (by decide +kernel)) ggX9_commonOf_X9_restOf
set_option maxRecDepth 20000 in
theorem ggX9_isDivided_X9_restOf : GoodIn wsX9_isDivided wsX9_restOf := goodIn_r _ [4, 5, 6, 3, 7, 8, 9, 10, 11, 12, 13, 14, 15, 16, 17, 18, 19, 20, 21, 22] (by eq_refl) gw_wsX9_restOf
set_option maxRecDepth 20000 in
theorem gX9_isDivided_X9_restOf : GoodIn wsX9_isDivided (va_wsS RX9 51 yX9_restOf wsX9_restOf) := goodIn_app (goodIn_r _ [1, 2, 3] (by eq_refl) (by decide +kernel)) ggX9_isDivided_X9_restOf
set_option maxRecDepth 20000 in
theorem ggX9_turnedOf_X9_degreeOf : GoodIn wsX9_turnedOf wsX9_degreeOf := goodIn_r _ [4, 5, 6, 7, 8, 9, 10, 11, 12, 13] (by eq_refl) gw_wsX9_degreeOf
set_option maxRecDepth 20000 in
theorem gX9_turnedOf_X9_degreeOf : GoodIn wsX9_turnedOf (va_wsS RX9 41 yX9_degreeOf wsX9_degreeOf) := goodIn_app (goodIn_r _ [1, 2, 3] (by eq_refl) (by decide +kernel)) ggX9_turnedOf_X9_degreeOf
set_option maxRecDepth 20000 in
theorem ggX9_powerOf_X9_restOf : GoodIn wsX9_powerOf wsX9_restOf := goodIn_r _ [4, 5, 6, 3, 7, 8, 9, 10, 11, 12, 13, 14, 15, 16, 17, 18, 19, 20, 21, 22] (by eq_refl) gw_wsX9_restOf
set_option maxRecDepth 20000 in
theorem gX9_powerOf_X9_restOf : GoodIn wsX9_powerOf (va_wsS RX9 51 yX9_restOf wsX9_restOf) := goodIn_app (goodIn_r _ [1, 2, 3] (by eq_refl) (by decide +kernel)) ggX9_powerOf_X9_restOf
set_option maxRecDepth 20000 in
theorem ggX9_powerOf_X9_productOf : GoodIn wsX9_powerOf wsX9_productOf := goodIn_r _ [22] (by eq_refl) gw_wsX9_productOf
set_option maxRecDepth 20000 in
theorem gX9_powerOf_X9_productOf : GoodIn wsX9_powerOf (va_wsS RX9 48 yX9_productOf wsX9_productOf) := goodIn_app (goodIn_r _ [20, 21, 3] (by eq_refl) (by decide +kernel)) ggX9_powerOf_X9_productOf
set_option maxRecDepth 20000 in
theorem ggX9_isPrimeNow_X9_degreeOf : GoodIn wsX9_isPrimeNow wsX9_degreeOf := goodIn_r _ [5, 6, 7, 8, 9, 10, 11, 12, 13, 14] (by eq_refl) gw_wsX9_degreeOf
set_option maxRecDepth 20000 in
theorem gX9_isPrimeNow_X9_degreeOf : GoodIn wsX9_isPrimeNow (va_wsS RX9 41 yX9_degreeOf wsX9_degreeOf) := goodIn_app (goodIn_r _ [2, 3, 4] (by eq_refl) (by decide +kernel)) ggX9_isPrimeNow_X9_degreeOf
set_option maxRecDepth 20000 in
theorem ggX9_isPrimeNow_X9_restOf : GoodIn wsX9_isPrimeNow wsX9_restOf := goodIn_r _ [17, 18, 19, 4, 20, 2, 3, 5, 6, 7, 8, 9, 10, 11, 12, 13, 14, 21, 22, 23] (by eq_refl) gw_wsX9_restOf
set_option maxRecDepth 20000 in
theorem gX9_isPrimeNow_X9_restOf : GoodIn wsX9_isPrimeNow (va_wsS RX9 51 yX9_restOf wsX9_restOf) := goodIn_app (goodIn_r _ [15, 16, 4] (by eq_refl) (by decide +kernel)) ggX9_isPrimeNow_X9_restOf
set_option maxRecDepth 20000 in
theorem ggX9_primesOf_X9_isPrimeNow : GoodIn wsX9_primesOf wsX9_isPrimeNow := goodIn_r _ [5, 1, 6, 7, 4, 8, 9, 10, 11, 12, 13, 14, 15, 16, 17, 18, 19, 20, 21, 22, 23, 24, 25, 26] (by eq_refl) gw_wsX9_isPrimeNow
set_option maxRecDepth 20000 in
theorem gX9_primesOf_X9_isPrimeNow : GoodIn wsX9_primesOf (va_wsS RX9 56 yX9_isPrimeNow wsX9_isPrimeNow) := goodIn_app (goodIn_r _ [2, 3, 4] (by eq_refl) (by decide +kernel)) ggX9_primesOf_X9_isPrimeNow
set_option maxRecDepth 20000 in
theorem ggX9_least_X9_degreeOf : GoodIn wsX9_least wsX9_degreeOf := goodIn_r _ [5, 6, 7, 8, 9, 10, 11, 12, 13, 14] (by eq_refl) gw_wsX9_degreeOf
set_option maxRecDepth 20000 in
theorem gX9_least_X9_degreeOf : GoodIn wsX9_least (va_wsS RX9 41 yX9_degreeOf wsX9_degreeOf) := goodIn_app (goodIn_r _ [2, 3, 4] (by eq_refl) (by decide +kernel)) ggX9_least_X9_degreeOf
set_option maxRecDepth 20000 in
theorem ggX9_least_X9_restOf : GoodIn wsX9_least wsX9_restOf := goodIn_r _ [17, 18, 19, 4, 20, 2, 3, 5, 6, 7, 8, 9, 10, 11, 12, 13, 14, 21, 22, 23] (by eq_refl) gw_wsX9_restOf
set_option maxRecDepth 20000 in
theorem gX9_least_X9_restOf : GoodIn wsX9_least (va_wsS RX9 51 yX9_restOf wsX9_restOf) := goodIn_app (goodIn_r _ [15, 16, 4] (by eq_refl) (by decide +kernel)) ggX9_least_X9_restOf
set_option maxRecDepth 20000 in
theorem ggX9_isWheel_X9_degreeOf : GoodIn wsX9_isWheel wsX9_degreeOf := goodIn_r _ [4, 5, 6, 7, 8, 9, 10, 11, 12, 13] (by eq_refl) gw_wsX9_degreeOf
set_option maxRecDepth 20000 in
theorem gX9_isWheel_X9_degreeOf : GoodIn wsX9_isWheel (va_wsS RX9 41 yX9_degreeOf wsX9_degreeOf) := goodIn_app (goodIn_r _ [1, 2, 3] (by eq_refl) (by decide +kernel)) ggX9_isWheel_X9_degreeOf
set_option maxRecDepth 20000 in
theorem ggX9_periodOf_X9_restOf : GoodIn wsX9_periodOf wsX9_restOf := goodIn_r _ [5, 6, 7, 4, 8, 9, 10, 11, 12, 13, 14, 15, 16, 17, 18, 19, 20, 21, 22, 23] (by eq_refl) gw_wsX9_restOf
set_option maxRecDepth 20000 in
theorem gX9_periodOf_X9_restOf : GoodIn wsX9_periodOf (va_wsS RX9 51 yX9_restOf wsX9_restOf) := goodIn_app (goodIn_r _ [2, 3, 4] (by eq_refl) (by decide +kernel)) ggX9_periodOf_X9_restOf
set_option maxRecDepth 20000 in
theorem ggX9_next_X9_degreeOf : GoodIn wsX9_next wsX9_degreeOf := goodIn_r _ [5, 6, 7, 8, 9, 10, 11, 12, 13, 14] (by eq_refl) gw_wsX9_degreeOf
set_option maxRecDepth 20000 in
theorem gX9_next_X9_degreeOf : GoodIn wsX9_next (va_wsS RX9 41 yX9_degreeOf wsX9_degreeOf) := goodIn_app (goodIn_r _ [2, 3, 4] (by eq_refl) (by decide +kernel)) ggX9_next_X9_degreeOf
set_option maxRecDepth 20000 in
theorem ggX9_next_X9_onesOf : GoodIn wsX9_next wsX9_onesOf := goodIn_r _ [17, 18, 19, 8, 20, 21, 22, 23] (by eq_refl) gw_wsX9_onesOf
set_option maxRecDepth 20000 in
theorem gX9_next_X9_onesOf : GoodIn wsX9_next (va_wsS RX9 60 yX9_onesOf wsX9_onesOf) := goodIn_app (goodIn_r _ [15, 16, 4] (by eq_refl) (by decide +kernel)) ggX9_next_X9_onesOf
set_option maxRecDepth 20000 in
theorem ggX9_isThrown__X9_isThrown : GoodIn wsX9_isThrown_ wsX9_isThrown := goodIn_r _ [5, 6, 7, 8, 9, 10, 11, 12, 13, 14, 15] (by eq_refl) gw_wsX9_isThrown
set_option maxRecDepth 20000 in
theorem gX9_isThrown__X9_isThrown : GoodIn wsX9_isThrown_ (wsV RX9 63 RX9 yX9_isThrown wsX9_isThrown) := goodIn_app (goodIn_r _ [1, 2, 3, 4] (by eq_refl) (by decide +kernel)) ggX9_isThrown__X9_isThrown
set_option maxRecDepth 20000 in
theorem ggX9_areNot_X9_isForm : GoodIn wsX9_areNot wsX9_isForm := goodIn_r _ [4] (by eq_refl) gw_wsX9_isForm
set_option maxRecDepth 20000 in
theorem gX9_areNot_X9_isForm : GoodIn wsX9_areNot (va_wsS RX9 67 yX9_isForm wsX9_isForm) := goodIn_app (goodIn_r _ [1, 2, 3] (by eq_refl) (by decide +kernel)) ggX9_areNot_X9_isForm
set_option maxRecDepth 20000 in
theorem ggX9_areNot_X9_isThrown_ : GoodIn wsX9_areNot wsX9_isThrown_ := goodIn_r _ [8, 9, 10, 11, 3, 12, 13, 14, 15, 16, 17, 18, 19, 20, 21, 22] (by eq_refl) gw_wsX9_isThrown_
set_option maxRecDepth 20000 in
theorem gX9_areNot_X9_isThrown_ : GoodIn wsX9_areNot (wsV RX9 71 RX9 yX9_isThrown_ wsX9_isThrown_) := goodIn_app (goodIn_r _ [5, 6, 7, 3] (by eq_refl) (by decide +kernel)) ggX9_areNot_X9_isThrown_
set_option maxRecDepth 20000 in
theorem ggX9_give_X9_degreeOf : GoodIn wsX9_give wsX9_degreeOf := goodIn_r _ [5, 6, 7, 8, 9, 10, 11, 12, 13, 14] (by eq_refl) gw_wsX9_degreeOf
set_option maxRecDepth 20000 in
theorem gX9_give_X9_degreeOf : GoodIn wsX9_give (va_wsS RX9 41 yX9_degreeOf wsX9_degreeOf) := goodIn_app (goodIn_r _ [2, 3, 4] (by eq_refl) (by decide +kernel)) ggX9_give_X9_degreeOf
set_option maxRecDepth 20000 in
theorem ggX9_give_X9_done : GoodIn wsX9_give wsX9_done := goodIn_r _ [18, 19, 20, 21, 22, 23, 24, 25, 26, 27, 28] (by eq_refl) gw_wsX9_done
set_option maxRecDepth 20000 in
theorem gX9_give_X9_done : GoodIn wsX9_give (wsV RX9 80 RX9 yX9_done wsX9_done) := goodIn_app (goodIn_r _ [15, 16, 17, 4] (by eq_refl) (by decide +kernel)) ggX9_give_X9_done
set_option maxRecDepth 20000 in
theorem ggX9_set_X9_isForm : GoodIn wsX9_set wsX9_isForm := goodIn_r _ [5] (by eq_refl) gw_wsX9_isForm
set_option maxRecDepth 20000 in
theorem gX9_set_X9_isForm : GoodIn wsX9_set (va_wsS RX9 67 yX9_isForm wsX9_isForm) := goodIn_app (goodIn_r _ [2, 3, 4] (by eq_refl) (by decide +kernel)) ggX9_set_X9_isForm
set_option maxRecDepth 20000 in
theorem ggX9_set_X9_isThrown : GoodIn wsX9_set wsX9_isThrown := goodIn_r _ [9, 10, 28, 29, 30, 31, 32, 33, 34, 35, 36] (by eq_refl) gw_wsX9_isThrown
set_option maxRecDepth 20000 in
theorem gX9_set_X9_isThrown : GoodIn wsX9_set (wsV RX9 63 RX9 yX9_isThrown wsX9_isThrown) := goodIn_app (goodIn_r _ [6, 7, 8, 4] (by eq_refl) (by decide +kernel)) ggX9_set_X9_isThrown
set_option maxRecDepth 20000 in
theorem ggX9_set_X9_degreeOf : GoodIn wsX9_set wsX9_degreeOf := goodIn_r _ [13, 14, 15, 16, 17, 18, 19, 20, 21, 22] (by eq_refl) gw_wsX9_degreeOf
set_option maxRecDepth 20000 in
theorem gX9_set_X9_degreeOf : GoodIn wsX9_set (va_wsS RX9 41 yX9_degreeOf wsX9_degreeOf) := goodIn_app (goodIn_r _ [11, 12, 4] (by eq_refl) (by decide +kernel)) ggX9_set_X9_degreeOf
set_option maxRecDepth 20000 in
theorem ggX9_set_X9_done : GoodIn wsX9_set wsX9_done := goodIn_r _ [26, 27, 28, 29, 30, 31, 32, 33, 34, 35, 36] (by eq_refl) gw_wsX9_done
set_option maxRecDepth 20000 in
theorem gX9_set_X9_done : GoodIn wsX9_set (wsV RX9 80 RX9 yX9_done wsX9_done) := goodIn_app (goodIn_r _ [23, 24, 25, 4] (by eq_refl) (by decide +kernel)) ggX9_set_X9_done
set_option maxRecDepth 20000 in
theorem ggX9_digit_X9_isForm : GoodIn wsX9_digit wsX9_isForm := goodIn_r _ [6] (by eq_refl) gw_wsX9_isForm
set_option maxRecDepth 20000 in
theorem gX9_digit_X9_isForm : GoodIn wsX9_digit (va_wsS RX9 67 yX9_isForm wsX9_isForm) := goodIn_app (goodIn_r _ [3, 4, 5] (by eq_refl) (by decide +kernel)) ggX9_digit_X9_isForm
set_option maxRecDepth 20000 in
theorem ggX9_digit_X9_isPlace : GoodIn wsX9_digit wsX9_isPlace := goodIn_r _ [9] (by eq_refl) gw_wsX9_isPlace
set_option maxRecDepth 20000 in
theorem gX9_digit_X9_isPlace : GoodIn wsX9_digit (va_wsS RX9 84 yX9_isPlace wsX9_isPlace) := goodIn_app (goodIn_r _ [7, 8, 5] (by eq_refl) (by decide +kernel)) ggX9_digit_X9_isPlace
set_option maxRecDepth 20000 in
theorem ggX9_digit_X9_isThrown : GoodIn wsX9_digit wsX9_isThrown := goodIn_r _ [13, 14, 20, 21, 22, 23, 24, 25, 26, 27, 28] (by eq_refl) gw_wsX9_isThrown
set_option maxRecDepth 20000 in
theorem gX9_digit_X9_isThrown : GoodIn wsX9_digit (wsV RX9 63 RX9 yX9_isThrown wsX9_isThrown) := goodIn_app (goodIn_r _ [10, 11, 12, 5] (by eq_refl) (by decide +kernel)) ggX9_digit_X9_isThrown
set_option maxRecDepth 20000 in
theorem ggX9_digit_X9_done : GoodIn wsX9_digit wsX9_done := goodIn_r _ [18, 19, 20, 21, 22, 23, 24, 25, 26, 27, 28] (by eq_refl) gw_wsX9_done
set_option maxRecDepth 20000 in
theorem gX9_digit_X9_done : GoodIn wsX9_digit (wsV RX9 80 RX9 yX9_done wsX9_done) := goodIn_app (goodIn_r _ [15, 16, 17, 5] (by eq_refl) (by decide +kernel)) ggX9_digit_X9_done
set_option maxRecDepth 20000 in
theorem ggX9_run_X9_isForm : GoodIn wsX9_run wsX9_isForm := goodIn_r _ [5] (by eq_refl) gw_wsX9_isForm
set_option maxRecDepth 20000 in
theorem gX9_run_X9_isForm : GoodIn wsX9_run (va_wsS RX9 67 yX9_isForm wsX9_isForm) := goodIn_app (goodIn_r _ [2, 3, 4] (by eq_refl) (by decide +kernel)) ggX9_run_X9_isForm
set_option maxRecDepth 20000 in
theorem ggX9_run_X9_isThrown : GoodIn wsX9_run wsX9_isThrown := goodIn_r _ [9, 10, 26, 27, 28, 29, 30, 31, 32, 33, 34] (by eq_refl) gw_wsX9_isThrown
set_option maxRecDepth 20000 in
theorem gX9_run_X9_isThrown : GoodIn wsX9_run (wsV RX9 63 RX9 yX9_isThrown wsX9_isThrown) := goodIn_app (goodIn_r _ [6, 7, 8, 4] (by eq_refl) (by decide +kernel)) ggX9_run_X9_isThrown
set_option maxRecDepth 20000 in
theorem ggX9_run_X9_onesOf : GoodIn wsX9_run wsX9_onesOf := goodIn_r _ [13, 14, 15, 16, 17, 18, 19, 20] (by eq_refl) gw_wsX9_onesOf
set_option maxRecDepth 20000 in
theorem gX9_run_X9_onesOf : GoodIn wsX9_run (va_wsS RX9 60 yX9_onesOf wsX9_onesOf) := goodIn_app (goodIn_r _ [11, 12, 4] (by eq_refl) (by decide +kernel)) ggX9_run_X9_onesOf
set_option maxRecDepth 20000 in
theorem ggX9_run_X9_done : GoodIn wsX9_run wsX9_done := goodIn_r _ [24, 25, 26, 27, 28, 29, 30, 31, 32, 33, 34] (by eq_refl) gw_wsX9_done
set_option maxRecDepth 20000 in
theorem gX9_run_X9_done : GoodIn wsX9_run (wsV RX9 80 RX9 yX9_done wsX9_done) := goodIn_app (goodIn_r _ [21, 22, 23, 4] (by eq_refl) (by decide +kernel)) ggX9_run_X9_done
set_option maxRecDepth 20000 in
theorem ggX9_copy_X9_isForm : GoodIn wsX9_copy wsX9_isForm := goodIn_r _ [5] (by eq_refl) gw_wsX9_isForm
set_option maxRecDepth 20000 in
theorem gX9_copy_X9_isForm : GoodIn wsX9_copy (va_wsS RX9 67 yX9_isForm wsX9_isForm) := goodIn_app (goodIn_r _ [2, 3, 4] (by eq_refl) (by decide +kernel)) ggX9_copy_X9_isForm
set_option maxRecDepth 20000 in
theorem ggX9_copy_X9_isThrown_ : GoodIn wsX9_copy wsX9_isThrown_ := goodIn_r _ [9, 10, 11, 12, 4, 13, 14, 36, 37, 38, 39, 40, 41, 42, 43, 44] (by eq_refl) gw_wsX9_isThrown_
set_option maxRecDepth 20000 in
theorem gX9_copy_X9_isThrown_ : GoodIn wsX9_copy (wsV RX9 71 RX9 yX9_isThrown_ wsX9_isThrown_) := goodIn_app (goodIn_r _ [6, 7, 8, 4] (by eq_refl) (by decide +kernel)) ggX9_copy_X9_isThrown_
set_option maxRecDepth 20000 in
theorem ggX9_copy_X9_give : GoodIn wsX9_copy wsX9_give := goodIn_r _ [18, 1, 19, 20, 4, 21, 22, 23, 24, 25, 26, 27, 28, 29, 30, 31, 32, 33, 34, 35, 36, 37, 38, 39, 40, 41, 42, 43, 44] (by eq_refl) gw_wsX9_give
set_option maxRecDepth 20000 in
theorem gX9_copy_X9_give : GoodIn wsX9_copy (wsV RX9 89 RX9 yX9_give wsX9_give) := goodIn_app (goodIn_r _ [15, 16, 17, 4] (by eq_refl) (by decide +kernel)) ggX9_copy_X9_give
set_option maxRecDepth 20000 in
theorem ggX9_swap_X9_isForm : GoodIn wsX9_swap wsX9_isForm := goodIn_r _ [5] (by eq_refl) gw_wsX9_isForm
set_option maxRecDepth 20000 in
theorem gX9_swap_X9_isForm : GoodIn wsX9_swap (va_wsS RX9 67 yX9_isForm wsX9_isForm) := goodIn_app (goodIn_r _ [2, 3, 4] (by eq_refl) (by decide +kernel)) ggX9_swap_X9_isForm
set_option maxRecDepth 20000 in
theorem ggX9_swap_X9_isThrown_ : GoodIn wsX9_swap wsX9_isThrown_ := goodIn_r _ [9, 10, 11, 12, 4, 13, 14, 20, 21, 22, 23, 24, 25, 26, 27, 28] (by eq_refl) gw_wsX9_isThrown_
set_option maxRecDepth 20000 in
theorem gX9_swap_X9_isThrown_ : GoodIn wsX9_swap (wsV RX9 71 RX9 yX9_isThrown_ wsX9_isThrown_) := goodIn_app (goodIn_r _ [6, 7, 8, 4] (by eq_refl) (by decide +kernel)) ggX9_swap_X9_isThrown_
set_option maxRecDepth 20000 in
theorem ggX9_swap_X9_done : GoodIn wsX9_swap wsX9_done := goodIn_r _ [18, 19, 20, 21, 22, 23, 24, 25, 26, 27, 28] (by eq_refl) gw_wsX9_done
set_option maxRecDepth 20000 in
theorem gX9_swap_X9_done : GoodIn wsX9_swap (wsV RX9 80 RX9 yX9_done wsX9_done) := goodIn_app (goodIn_r _ [15, 16, 17, 4] (by eq_refl) (by decide +kernel)) ggX9_swap_X9_done
set_option maxRecDepth 20000 in
theorem ggX9_shift_X9_isForm : GoodIn wsX9_shift wsX9_isForm := goodIn_r _ [5] (by eq_refl) gw_wsX9_isForm
set_option maxRecDepth 20000 in
theorem gX9_shift_X9_isForm : GoodIn wsX9_shift (va_wsS RX9 67 yX9_isForm wsX9_isForm) := goodIn_app (goodIn_r _ [2, 3, 4] (by eq_refl) (by decide +kernel)) ggX9_shift_X9_isForm
set_option maxRecDepth 20000 in
theorem ggX9_shift_X9_isThrown : GoodIn wsX9_shift wsX9_isThrown := goodIn_r _ [9, 10, 37, 38, 39, 40, 41, 42, 43, 44, 45] (by eq_refl) gw_wsX9_isThrown
set_option maxRecDepth 20000 in
theorem gX9_shift_X9_isThrown : GoodIn wsX9_shift (wsV RX9 63 RX9 yX9_isThrown wsX9_isThrown) := goodIn_app (goodIn_r _ [6, 7, 8, 4] (by eq_refl) (by decide +kernel)) ggX9_shift_X9_isThrown
set_option maxRecDepth 20000 in
theorem ggX9_shift_X9_degreeOf : GoodIn wsX9_shift wsX9_degreeOf := goodIn_r _ [13, 14, 15, 16, 17, 18, 19, 20, 21, 22] (by eq_refl) gw_wsX9_degreeOf
set_option maxRecDepth 20000 in
theorem gX9_shift_X9_degreeOf : GoodIn wsX9_shift (va_wsS RX9 41 yX9_degreeOf wsX9_degreeOf) := goodIn_app (goodIn_r _ [11, 12, 4] (by eq_refl) (by decide +kernel)) ggX9_shift_X9_degreeOf
set_option maxRecDepth 20000 in
theorem ggX9_shift_X9_no : GoodIn wsX9_shift wsX9_no := goodIn_r _ [26, 27, 37, 38, 39, 40, 41, 42, 43, 44, 45] (by eq_refl) gw_wsX9_no
set_option maxRecDepth 20000 in
theorem gX9_shift_X9_no : GoodIn wsX9_shift (wsV RX9 93 RX9 yX9_no wsX9_no) := goodIn_app (goodIn_r _ [23, 24, 25, 4] (by eq_refl) (by decide +kernel)) ggX9_shift_X9_no
set_option maxRecDepth 20000 in
theorem ggX9_shift_X9_give : GoodIn wsX9_shift wsX9_give := goodIn_r _ [31, 1, 11, 12, 4, 13, 14, 15, 16, 17, 18, 19, 20, 21, 22, 32, 33, 34, 35, 36, 37, 38, 39, 40, 41, 42, 43, 44, 45] (by eq_refl) gw_wsX9_give
set_option maxRecDepth 20000 in
theorem gX9_shift_X9_give : GoodIn wsX9_shift (wsV RX9 89 RX9 yX9_give wsX9_give) := goodIn_app (goodIn_r _ [28, 29, 30, 4] (by eq_refl) (by decide +kernel)) ggX9_shift_X9_give
set_option maxRecDepth 20000 in
theorem ggX9_turn_X9_isForm : GoodIn wsX9_turn wsX9_isForm := goodIn_r _ [5] (by eq_refl) gw_wsX9_isForm
set_option maxRecDepth 20000 in
theorem gX9_turn_X9_isForm : GoodIn wsX9_turn (va_wsS RX9 67 yX9_isForm wsX9_isForm) := goodIn_app (goodIn_r _ [2, 3, 4] (by eq_refl) (by decide +kernel)) ggX9_turn_X9_isForm
set_option maxRecDepth 20000 in
theorem ggX9_turn_X9_isThrown_ : GoodIn wsX9_turn wsX9_isThrown_ := goodIn_r _ [9, 10, 11, 12, 4, 13, 14, 39, 40, 41, 42, 43, 44, 45, 46, 47] (by eq_refl) gw_wsX9_isThrown_
set_option maxRecDepth 20000 in
theorem gX9_turn_X9_isThrown_ : GoodIn wsX9_turn (wsV RX9 71 RX9 yX9_isThrown_ wsX9_isThrown_) := goodIn_app (goodIn_r _ [6, 7, 8, 4] (by eq_refl) (by decide +kernel)) ggX9_turn_X9_isThrown_
set_option maxRecDepth 20000 in
theorem ggX9_turn_X9_turnedOf : GoodIn wsX9_turn wsX9_turnedOf := goodIn_r _ [17, 18, 19, 4, 20, 21, 22, 23, 24, 25, 26, 27, 28, 29] (by eq_refl) gw_wsX9_turnedOf
set_option maxRecDepth 20000 in
theorem gX9_turn_X9_turnedOf : GoodIn wsX9_turn (va_wsS RX9 97 yX9_turnedOf wsX9_turnedOf) := goodIn_app (goodIn_r _ [15, 16, 4] (by eq_refl) (by decide +kernel)) ggX9_turn_X9_turnedOf
set_option maxRecDepth 20000 in
theorem ggX9_turn_X9_give : GoodIn wsX9_turn wsX9_give := goodIn_r _ [33, 1, 18, 19, 4, 20, 21, 22, 23, 24, 25, 26, 27, 28, 29, 34, 35, 36, 37, 38, 39, 40, 41, 42, 43, 44, 45, 46, 47] (by eq_refl) gw_wsX9_give
set_option maxRecDepth 20000 in
theorem gX9_turn_X9_give : GoodIn wsX9_turn (wsV RX9 89 RX9 yX9_give wsX9_give) := goodIn_app (goodIn_r _ [30, 31, 32, 4] (by eq_refl) (by decide +kernel)) ggX9_turn_X9_give
set_option maxRecDepth 20000 in
theorem ggX9_slope_X9_isForm : GoodIn wsX9_slope wsX9_isForm := goodIn_r _ [5] (by eq_refl) gw_wsX9_isForm
set_option maxRecDepth 20000 in
theorem gX9_slope_X9_isForm : GoodIn wsX9_slope (va_wsS RX9 67 yX9_isForm wsX9_isForm) := goodIn_app (goodIn_r _ [2, 3, 4] (by eq_refl) (by decide +kernel)) ggX9_slope_X9_isForm
set_option maxRecDepth 20000 in
theorem ggX9_slope_X9_isThrown_ : GoodIn wsX9_slope wsX9_isThrown_ := goodIn_r _ [9, 10, 11, 12, 4, 13, 14, 36, 37, 38, 39, 40, 41, 42, 43, 44] (by eq_refl) gw_wsX9_isThrown_
set_option maxRecDepth 20000 in
theorem gX9_slope_X9_isThrown_ : GoodIn wsX9_slope (wsV RX9 71 RX9 yX9_isThrown_ wsX9_isThrown_) := goodIn_app (goodIn_r _ [6, 7, 8, 4] (by eq_refl) (by decide +kernel)) ggX9_slope_X9_isThrown_
set_option maxRecDepth 20000 in
theorem ggX9_slope_X9_give : GoodIn wsX9_slope wsX9_give := goodIn_r _ [18, 1, 19, 20, 4, 21, 22, 23, 24, 25, 26, 27, 28, 29, 30, 31, 32, 33, 34, 35, 36, 37, 38, 39, 40, 41, 42, 43, 44] (by eq_refl) gw_wsX9_give
set_option maxRecDepth 20000 in
theorem gX9_slope_X9_give : GoodIn wsX9_slope (wsV RX9 89 RX9 yX9_give wsX9_give) := goodIn_app (goodIn_r _ [15, 16, 17, 4] (by eq_refl) (by decide +kernel)) ggX9_slope_X9_give
set_option maxRecDepth 20000 in
theorem ggX9_add_X9_areNot : GoodIn wsX9_add wsX9_areNot := goodIn_r _ [6, 7, 8, 5, 9, 10, 11, 12, 13, 14, 15, 16, 17, 18, 40, 41, 42, 43, 44, 45, 46, 47, 48] (by eq_refl) gw_wsX9_areNot
set_option maxRecDepth 20000 in
theorem gX9_add_X9_areNot : GoodIn wsX9_add (wsV RX9 101 RX9 yX9_areNot wsX9_areNot) := goodIn_app (goodIn_r _ [2, 3, 4, 5] (by eq_refl) (by decide +kernel)) ggX9_add_X9_areNot
set_option maxRecDepth 20000 in
theorem ggX9_add_X9_give : GoodIn wsX9_add wsX9_give := goodIn_r _ [22, 1, 23, 24, 5, 25, 26, 27, 28, 29, 30, 31, 32, 33, 34, 35, 36, 37, 38, 39, 40, 41, 42, 43, 44, 45, 46, 47, 48] (by eq_refl) gw_wsX9_give
set_option maxRecDepth 20000 in
theorem gX9_add_X9_give : GoodIn wsX9_add (wsV RX9 89 RX9 yX9_give wsX9_give) := goodIn_app (goodIn_r _ [19, 20, 21, 5] (by eq_refl) (by decide +kernel)) ggX9_add_X9_give
set_option maxRecDepth 20000 in
theorem ggX9_isTooHigh_X9_degreeOf : GoodIn wsX9_isTooHigh wsX9_degreeOf := goodIn_r _ [4, 5, 6, 7, 8, 9, 10, 11, 12, 13] (by eq_refl) gw_wsX9_degreeOf
set_option maxRecDepth 20000 in
theorem gX9_isTooHigh_X9_degreeOf : GoodIn wsX9_isTooHigh (va_wsS RX9 41 yX9_degreeOf wsX9_degreeOf) := goodIn_app (goodIn_r _ [1, 2, 3] (by eq_refl) (by decide +kernel)) ggX9_isTooHigh_X9_degreeOf
set_option maxRecDepth 20000 in
theorem ggX9_multiply_X9_areNot : GoodIn wsX9_multiply wsX9_areNot := goodIn_r _ [6, 7, 8, 5, 9, 10, 11, 12, 13, 14, 15, 16, 17, 18, 52, 53, 54, 55, 56, 57, 58, 59, 60] (by eq_refl) gw_wsX9_areNot
set_option maxRecDepth 20000 in
theorem gX9_multiply_X9_areNot : GoodIn wsX9_multiply (wsV RX9 101 RX9 yX9_areNot wsX9_areNot) := goodIn_app (goodIn_r _ [2, 3, 4, 5] (by eq_refl) (by decide +kernel)) ggX9_multiply_X9_areNot
set_option maxRecDepth 20000 in
theorem ggX9_multiply_X9_isTooHigh : GoodIn wsX9_multiply wsX9_isTooHigh := goodIn_r _ [22, 23, 24, 5, 25, 26, 27, 28, 29, 30, 31, 32, 33, 34] (by eq_refl) gw_wsX9_isTooHigh
set_option maxRecDepth 20000 in
theorem gX9_multiply_X9_isTooHigh : GoodIn wsX9_multiply (wsV RX9 105 RX9 yX9_isTooHigh wsX9_isTooHigh) := goodIn_app (goodIn_r _ [19, 20, 21, 5] (by eq_refl) (by decide +kernel)) ggX9_multiply_X9_isTooHigh
set_option maxRecDepth 20000 in
theorem ggX9_multiply_X9_no : GoodIn wsX9_multiply wsX9_no := goodIn_r _ [38, 39, 52, 53, 54, 55, 56, 57, 58, 59, 60] (by eq_refl) gw_wsX9_no
set_option maxRecDepth 20000 in
theorem gX9_multiply_X9_no : GoodIn wsX9_multiply (wsV RX9 93 RX9 yX9_no wsX9_no) := goodIn_app (goodIn_r _ [35, 36, 37, 5] (by eq_refl) (by decide +kernel)) ggX9_multiply_X9_no
set_option maxRecDepth 20000 in
theorem ggX9_multiply_X9_productOf : GoodIn wsX9_multiply wsX9_productOf := goodIn_r _ [42] (by eq_refl) gw_wsX9_productOf
set_option maxRecDepth 20000 in
theorem gX9_multiply_X9_productOf : GoodIn wsX9_multiply (va_wsS RX9 48 yX9_productOf wsX9_productOf) := goodIn_app (goodIn_r _ [40, 41, 5] (by eq_refl) (by decide +kernel)) ggX9_multiply_X9_productOf
set_option maxRecDepth 20000 in
theorem ggX9_multiply_X9_give : GoodIn wsX9_multiply wsX9_give := goodIn_r _ [46, 1, 23, 24, 5, 25, 26, 27, 28, 29, 30, 31, 32, 33, 34, 47, 48, 49, 50, 51, 52, 53, 54, 55, 56, 57, 58, 59, 60] (by eq_refl) gw_wsX9_give
set_option maxRecDepth 20000 in
theorem gX9_multiply_X9_give : GoodIn wsX9_multiply (wsV RX9 89 RX9 yX9_give wsX9_give) := goodIn_app (goodIn_r _ [43, 44, 45, 5] (by eq_refl) (by decide +kernel)) ggX9_multiply_X9_give
set_option maxRecDepth 20000 in
theorem ggX9_square_X9_isForm : GoodIn wsX9_square wsX9_isForm := goodIn_r _ [5] (by eq_refl) gw_wsX9_isForm
set_option maxRecDepth 20000 in
theorem gX9_square_X9_isForm : GoodIn wsX9_square (va_wsS RX9 67 yX9_isForm wsX9_isForm) := goodIn_app (goodIn_r _ [2, 3, 4] (by eq_refl) (by decide +kernel)) ggX9_square_X9_isForm
set_option maxRecDepth 20000 in
theorem ggX9_square_X9_isThrown_ : GoodIn wsX9_square wsX9_isThrown_ := goodIn_r _ [9, 10, 11, 12, 4, 13, 14, 48, 49, 50, 51, 52, 53, 54, 55, 56] (by eq_refl) gw_wsX9_isThrown_
set_option maxRecDepth 20000 in
theorem gX9_square_X9_isThrown_ : GoodIn wsX9_square (wsV RX9 71 RX9 yX9_isThrown_ wsX9_isThrown_) := goodIn_app (goodIn_r _ [6, 7, 8, 4] (by eq_refl) (by decide +kernel)) ggX9_square_X9_isThrown_
set_option maxRecDepth 20000 in
theorem ggX9_square_X9_isTooHigh : GoodIn wsX9_square wsX9_isTooHigh := goodIn_r _ [18, 19, 20, 4, 21, 22, 23, 24, 25, 26, 27, 28, 29, 30] (by eq_refl) gw_wsX9_isTooHigh
set_option maxRecDepth 20000 in
theorem gX9_square_X9_isTooHigh : GoodIn wsX9_square (wsV RX9 105 RX9 yX9_isTooHigh wsX9_isTooHigh) := goodIn_app (goodIn_r _ [15, 16, 17, 4] (by eq_refl) (by decide +kernel)) ggX9_square_X9_isTooHigh
set_option maxRecDepth 20000 in
theorem ggX9_square_X9_no : GoodIn wsX9_square wsX9_no := goodIn_r _ [34, 35, 48, 49, 50, 51, 52, 53, 54, 55, 56] (by eq_refl) gw_wsX9_no
set_option maxRecDepth 20000 in
theorem gX9_square_X9_no : GoodIn wsX9_square (wsV RX9 93 RX9 yX9_no wsX9_no) := goodIn_app (goodIn_r _ [31, 32, 33, 4] (by eq_refl) (by decide +kernel)) ggX9_square_X9_no
set_option maxRecDepth 20000 in
theorem ggX9_square_X9_productOf : GoodIn wsX9_square wsX9_productOf := goodIn_r _ [38] (by eq_refl) gw_wsX9_productOf
set_option maxRecDepth 20000 in
theorem gX9_square_X9_productOf : GoodIn wsX9_square (va_wsS RX9 48 yX9_productOf wsX9_productOf) := goodIn_app (goodIn_r _ [36, 37, 4] (by eq_refl) (by decide +kernel)) ggX9_square_X9_productOf
set_option maxRecDepth 20000 in
theorem ggX9_square_X9_give : GoodIn wsX9_square wsX9_give := goodIn_r _ [42, 1, 19, 20, 4, 21, 22, 23, 24, 25, 26, 27, 28, 29, 30, 43, 44, 45, 46, 47, 48, 49, 50, 51, 52, 53, 54, 55, 56] (by eq_refl) gw_wsX9_give
set_option maxRecDepth 20000 in
theorem gX9_square_X9_give : GoodIn wsX9_square (wsV RX9 89 RX9 yX9_give wsX9_give) := goodIn_app (goodIn_r _ [39, 40, 41, 4] (by eq_refl) (by decide +kernel)) ggX9_square_X9_give
set_option maxRecDepth 20000 in
theorem ggX9_divide_X9_areNot : GoodIn wsX9_divide wsX9_areNot := goodIn_r _ [6, 7, 8, 5, 9, 10, 11, 12, 13, 14, 15, 16, 17, 18, 48, 49, 50, 51, 52, 53, 54, 55, 56] (by eq_refl) gw_wsX9_areNot
set_option maxRecDepth 20000 in
theorem gX9_divide_X9_areNot : GoodIn wsX9_divide (wsV RX9 101 RX9 yX9_areNot wsX9_areNot) := goodIn_app (goodIn_r _ [2, 3, 4, 5] (by eq_refl) (by decide +kernel)) ggX9_divide_X9_areNot
set_option maxRecDepth 20000 in
theorem ggX9_divide_X9_no : GoodIn wsX9_divide wsX9_no := goodIn_r _ [22, 23, 48, 49, 50, 51, 52, 53, 54, 55, 56] (by eq_refl) gw_wsX9_no
set_option maxRecDepth 20000 in
theorem gX9_divide_X9_no : GoodIn wsX9_divide (wsV RX9 93 RX9 yX9_no wsX9_no) := goodIn_app (goodIn_r _ [19, 20, 21, 5] (by eq_refl) (by decide +kernel)) ggX9_divide_X9_no
set_option maxRecDepth 20000 in
theorem ggX9_divide_X9_quotientOf : GoodIn wsX9_divide wsX9_quotientOf := goodIn_r _ [26, 27, 28, 5, 29, 30, 31, 32, 33, 34, 35, 36, 37, 38] (by eq_refl) gw_wsX9_quotientOf
set_option maxRecDepth 20000 in
theorem gX9_divide_X9_quotientOf : GoodIn wsX9_divide (va_wsS RX9 44 yX9_quotientOf wsX9_quotientOf) := goodIn_app (goodIn_r _ [24, 25, 5] (by eq_refl) (by decide +kernel)) ggX9_divide_X9_quotientOf
set_option maxRecDepth 20000 in
theorem ggX9_divide_X9_give : GoodIn wsX9_divide wsX9_give := goodIn_r _ [42, 1, 27, 28, 5, 29, 30, 31, 32, 33, 34, 35, 36, 37, 38, 43, 44, 45, 46, 47, 48, 49, 50, 51, 52, 53, 54, 55, 56] (by eq_refl) gw_wsX9_give
set_option maxRecDepth 20000 in
theorem gX9_divide_X9_give : GoodIn wsX9_divide (wsV RX9 89 RX9 yX9_give wsX9_give) := goodIn_app (goodIn_r _ [39, 40, 41, 5] (by eq_refl) (by decide +kernel)) ggX9_divide_X9_give
set_option maxRecDepth 20000 in
theorem ggX9_remain_X9_areNot : GoodIn wsX9_remain wsX9_areNot := goodIn_r _ [6, 7, 8, 5, 9, 10, 11, 12, 13, 14, 15, 16, 17, 18, 54, 55, 56, 57, 58, 59, 60, 61, 62] (by eq_refl) gw_wsX9_areNot
set_option maxRecDepth 20000 in
theorem gX9_remain_X9_areNot : GoodIn wsX9_remain (wsV RX9 101 RX9 yX9_areNot wsX9_areNot) := goodIn_app (goodIn_r _ [2, 3, 4, 5] (by eq_refl) (by decide +kernel)) ggX9_remain_X9_areNot
set_option maxRecDepth 20000 in
theorem ggX9_remain_X9_no : GoodIn wsX9_remain wsX9_no := goodIn_r _ [22, 23, 54, 55, 56, 57, 58, 59, 60, 61, 62] (by eq_refl) gw_wsX9_no
set_option maxRecDepth 20000 in
theorem gX9_remain_X9_no : GoodIn wsX9_remain (wsV RX9 93 RX9 yX9_no wsX9_no) := goodIn_app (goodIn_r _ [19, 20, 21, 5] (by eq_refl) (by decide +kernel)) ggX9_remain_X9_no
set_option maxRecDepth 20000 in
theorem ggX9_remain_X9_restOf : GoodIn wsX9_remain wsX9_restOf := goodIn_r _ [26, 27, 28, 5, 29, 30, 31, 32, 33, 34, 35, 36, 37, 38, 39, 40, 41, 42, 43, 44] (by eq_refl) gw_wsX9_restOf
set_option maxRecDepth 20000 in
theorem gX9_remain_X9_restOf : GoodIn wsX9_remain (va_wsS RX9 51 yX9_restOf wsX9_restOf) := goodIn_app (goodIn_r _ [24, 25, 5] (by eq_refl) (by decide +kernel)) ggX9_remain_X9_restOf
set_option maxRecDepth 20000 in
theorem ggX9_remain_X9_give : GoodIn wsX9_remain wsX9_give := goodIn_r _ [48, 1, 30, 31, 5, 32, 33, 34, 35, 36, 37, 38, 39, 40, 41, 49, 50, 51, 52, 53, 54, 55, 56, 57, 58, 59, 60, 61, 62] (by eq_refl) gw_wsX9_give
set_option maxRecDepth 20000 in
theorem gX9_remain_X9_give : GoodIn wsX9_remain (wsV RX9 89 RX9 yX9_give wsX9_give) := goodIn_app (goodIn_r _ [45, 46, 47, 5] (by eq_refl) (by decide +kernel)) ggX9_remain_X9_give
set_option maxRecDepth 20000 in
theorem ggX9_common_X9_areNot : GoodIn wsX9_common wsX9_areNot := goodIn_r _ [6, 7, 8, 5, 9, 10, 11, 12, 13, 14, 15, 16, 17, 18, 52, 53, 54, 55, 56, 57, 58, 59, 60] (by eq_refl) gw_wsX9_areNot
set_option maxRecDepth 20000 in
theorem gX9_common_X9_areNot : GoodIn wsX9_common (wsV RX9 101 RX9 yX9_areNot wsX9_areNot) := goodIn_app (goodIn_r _ [2, 3, 4, 5] (by eq_refl) (by decide +kernel)) ggX9_common_X9_areNot
set_option maxRecDepth 20000 in
theorem ggX9_common_X9_commonOf : GoodIn wsX9_common wsX9_commonOf := goodIn_r _ [21, 22, 23, 5, 24, 25, 26, 27, 28, 29, 30, 31, 32, 33, 34, 35, 36, 37, 38, 39, 40, 41, 42] (by eq_refl) gw_wsX9_commonOf
set_option maxRecDepth 20000 in
theorem gX9_common_X9_commonOf : GoodIn wsX9_common (va_wsS RX9 109 yX9_commonOf wsX9_commonOf) := goodIn_app (goodIn_r _ [19, 20, 5] (by eq_refl) (by decide +kernel)) ggX9_common_X9_commonOf
set_option maxRecDepth 20000 in
theorem ggX9_common_X9_give : GoodIn wsX9_common wsX9_give := goodIn_r _ [46, 1, 28, 29, 5, 30, 31, 32, 33, 34, 35, 36, 37, 38, 39, 47, 48, 49, 50, 51, 52, 53, 54, 55, 56, 57, 58, 59, 60] (by eq_refl) gw_wsX9_give
set_option maxRecDepth 20000 in
theorem gX9_common_X9_give : GoodIn wsX9_common (wsV RX9 89 RX9 yX9_give wsX9_give) := goodIn_app (goodIn_r _ [43, 44, 45, 5] (by eq_refl) (by decide +kernel)) ggX9_common_X9_give
set_option maxRecDepth 20000 in
theorem ggX9_multipliers_X9_isForm : GoodIn wsX9_multipliers wsX9_isForm := goodIn_r _ [6] (by eq_refl) gw_wsX9_isForm
set_option maxRecDepth 20000 in
theorem gX9_multipliers_X9_isForm : GoodIn wsX9_multipliers (va_wsS RX9 67 yX9_isForm wsX9_isForm) := goodIn_app (goodIn_r _ [3, 4, 5] (by eq_refl) (by decide +kernel)) ggX9_multipliers_X9_isForm
set_option maxRecDepth 20000 in
theorem ggX9_multipliers_X9_isThrown : GoodIn wsX9_multipliers wsX9_isThrown := goodIn_r _ [10, 11, 35, 36, 37, 38, 39, 40, 41, 42, 43] (by eq_refl) gw_wsX9_isThrown
set_option maxRecDepth 20000 in
theorem gX9_multipliers_X9_isThrown : GoodIn wsX9_multipliers (wsV RX9 63 RX9 yX9_isThrown wsX9_isThrown) := goodIn_app (goodIn_r _ [7, 8, 9, 5] (by eq_refl) (by decide +kernel)) ggX9_multipliers_X9_isThrown
set_option maxRecDepth 20000 in
theorem ggX9_multipliers_X9_quotientOf : GoodIn wsX9_multipliers wsX9_quotientOf := goodIn_r _ [14, 15, 16, 5, 17, 18, 19, 20, 21, 22, 23, 24, 25, 26] (by eq_refl) gw_wsX9_quotientOf
set_option maxRecDepth 20000 in
theorem gX9_multipliers_X9_quotientOf : GoodIn wsX9_multipliers (va_wsS RX9 44 yX9_quotientOf wsX9_quotientOf) := goodIn_app (goodIn_r _ [12, 13, 5] (by eq_refl) (by decide +kernel)) ggX9_multipliers_X9_quotientOf
set_option maxRecDepth 20000 in
theorem ggX9_multipliers_X9_productOf : GoodIn wsX9_multipliers wsX9_productOf := goodIn_r _ [29] (by eq_refl) gw_wsX9_productOf
set_option maxRecDepth 20000 in
theorem gX9_multipliers_X9_productOf : GoodIn wsX9_multipliers (va_wsS RX9 48 yX9_productOf wsX9_productOf) := goodIn_app (goodIn_r _ [27, 28, 5] (by eq_refl) (by decide +kernel)) ggX9_multipliers_X9_productOf
set_option maxRecDepth 20000 in
theorem ggX9_multipliers_X9_degreeOf : GoodIn wsX9_multipliers wsX9_degreeOf := goodIn_r _ [17, 18, 19, 20, 21, 22, 23, 24, 25, 26] (by eq_refl) gw_wsX9_degreeOf
set_option maxRecDepth 20000 in
theorem gX9_multipliers_X9_degreeOf : GoodIn wsX9_multipliers (va_wsS RX9 41 yX9_degreeOf wsX9_degreeOf) := goodIn_app (goodIn_r _ [15, 16, 5] (by eq_refl) (by decide +kernel)) ggX9_multipliers_X9_degreeOf
set_option maxRecDepth 20000 in
theorem ggX9_multipliers_X9_done : GoodIn wsX9_multipliers wsX9_done := goodIn_r _ [33, 34, 35, 36, 37, 38, 39, 40, 41, 42, 43] (by eq_refl) gw_wsX9_done
set_option maxRecDepth 20000 in
theorem gX9_multipliers_X9_done : GoodIn wsX9_multipliers (wsV RX9 80 RX9 yX9_done wsX9_done) := goodIn_app (goodIn_r _ [30, 31, 32, 5] (by eq_refl) (by decide +kernel)) ggX9_multipliers_X9_done
set_option maxRecDepth 20000 in
theorem ggX9_power_X9_isForm : GoodIn wsX9_power wsX9_isForm := goodIn_r _ [5] (by eq_refl) gw_wsX9_isForm
set_option maxRecDepth 20000 in
theorem gX9_power_X9_isForm : GoodIn wsX9_power (va_wsS RX9 67 yX9_isForm wsX9_isForm) := goodIn_app (goodIn_r _ [2, 3, 4] (by eq_refl) (by decide +kernel)) ggX9_power_X9_isForm
set_option maxRecDepth 20000 in
theorem ggX9_power_X9_isThrown : GoodIn wsX9_power wsX9_isThrown := goodIn_r _ [9, 10, 49, 50, 51, 52, 53, 54, 55, 56, 57] (by eq_refl) gw_wsX9_isThrown
set_option maxRecDepth 20000 in
theorem gX9_power_X9_isThrown : GoodIn wsX9_power (wsV RX9 63 RX9 yX9_isThrown wsX9_isThrown) := goodIn_app (goodIn_r _ [6, 7, 8, 4] (by eq_refl) (by decide +kernel)) ggX9_power_X9_isThrown
set_option maxRecDepth 20000 in
theorem ggX9_power_X9_degreeOf : GoodIn wsX9_power wsX9_degreeOf := goodIn_r _ [13, 14, 15, 16, 17, 18, 19, 20, 21, 22] (by eq_refl) gw_wsX9_degreeOf
set_option maxRecDepth 20000 in
theorem gX9_power_X9_degreeOf : GoodIn wsX9_power (va_wsS RX9 41 yX9_degreeOf wsX9_degreeOf) := goodIn_app (goodIn_r _ [11, 12, 4] (by eq_refl) (by decide +kernel)) ggX9_power_X9_degreeOf
set_option maxRecDepth 20000 in
theorem ggX9_power_X9_no : GoodIn wsX9_power wsX9_no := goodIn_r _ [26, 27, 49, 50, 51, 52, 53, 54, 55, 56, 57] (by eq_refl) gw_wsX9_no
set_option maxRecDepth 20000 in
theorem gX9_power_X9_no : GoodIn wsX9_power (wsV RX9 93 RX9 yX9_no wsX9_no) := goodIn_app (goodIn_r _ [23, 24, 25, 4] (by eq_refl) (by decide +kernel)) ggX9_power_X9_no
set_option maxRecDepth 20000 in
theorem ggX9_power_X9_powerOf : GoodIn wsX9_power wsX9_powerOf := goodIn_r _ [30, 31, 32, 4, 33, 34, 35, 36, 11, 12, 13, 14, 15, 16, 17, 18, 19, 20, 21, 22, 37, 38, 39] (by eq_refl) gw_wsX9_powerOf
set_option maxRecDepth 20000 in
theorem gX9_power_X9_powerOf : GoodIn wsX9_power (va_wsS RX9 112 yX9_powerOf wsX9_powerOf) := goodIn_app (goodIn_r _ [28, 29, 4] (by eq_refl) (by decide +kernel)) ggX9_power_X9_powerOf
set_option maxRecDepth 20000 in
theorem ggX9_power_X9_give : GoodIn wsX9_power wsX9_give := goodIn_r _ [43, 1, 11, 12, 4, 13, 14, 15, 16, 17, 18, 19, 20, 21, 22, 44, 45, 46, 47, 48, 49, 50, 51, 52, 53, 54, 55, 56, 57] (by eq_refl) gw_wsX9_give
set_option maxRecDepth 20000 in
theorem gX9_power_X9_give : GoodIn wsX9_power (wsV RX9 89 RX9 yX9_give wsX9_give) := goodIn_app (goodIn_r _ [40, 41, 42, 4] (by eq_refl) (by decide +kernel)) ggX9_power_X9_give
set_option maxRecDepth 20000 in
theorem ggX9_allPrimes_X9_isForm : GoodIn wsX9_allPrimes wsX9_isForm := goodIn_r _ [5] (by eq_refl) gw_wsX9_isForm
set_option maxRecDepth 20000 in
theorem gX9_allPrimes_X9_isForm : GoodIn wsX9_allPrimes (va_wsS RX9 67 yX9_isForm wsX9_isForm) := goodIn_app (goodIn_r _ [2, 3, 4] (by eq_refl) (by decide +kernel)) ggX9_allPrimes_X9_isForm
set_option maxRecDepth 20000 in
theorem ggX9_allPrimes_X9_isThrown : GoodIn wsX9_allPrimes wsX9_isThrown := goodIn_r _ [9, 10, 45, 46, 47, 48, 49, 50, 51, 52, 53] (by eq_refl) gw_wsX9_isThrown
set_option maxRecDepth 20000 in
theorem gX9_allPrimes_X9_isThrown : GoodIn wsX9_allPrimes (wsV RX9 63 RX9 yX9_isThrown wsX9_isThrown) := goodIn_app (goodIn_r _ [6, 7, 8, 4] (by eq_refl) (by decide +kernel)) ggX9_allPrimes_X9_isThrown
set_option maxRecDepth 20000 in
theorem ggX9_allPrimes_X9_isPrimeNow : GoodIn wsX9_allPrimes wsX9_isPrimeNow := goodIn_r _ [13, 1, 14, 15, 4, 16, 17, 18, 19, 20, 21, 22, 23, 24, 25, 26, 27, 28, 29, 30, 31, 32, 33, 34] (by eq_refl) gw_wsX9_isPrimeNow
set_option maxRecDepth 20000 in
theorem gX9_allPrimes_X9_isPrimeNow : GoodIn wsX9_allPrimes (va_wsS RX9 56 yX9_isPrimeNow wsX9_isPrimeNow) := goodIn_app (goodIn_r _ [11, 12, 4] (by eq_refl) (by decide +kernel)) ggX9_allPrimes_X9_isPrimeNow
set_option maxRecDepth 20000 in
theorem ggX9_allPrimes_X9_productOf : GoodIn wsX9_allPrimes wsX9_productOf := goodIn_r _ [34] (by eq_refl) gw_wsX9_productOf
set_option maxRecDepth 20000 in
theorem gX9_allPrimes_X9_productOf : GoodIn wsX9_allPrimes (va_wsS RX9 48 yX9_productOf wsX9_productOf) := goodIn_app (goodIn_r _ [32, 33, 4] (by eq_refl) (by decide +kernel)) ggX9_allPrimes_X9_productOf
set_option maxRecDepth 20000 in
theorem ggX9_allPrimes_X9_give : GoodIn wsX9_allPrimes wsX9_give := goodIn_r _ [38, 39, 14, 15, 4, 16, 17, 18, 19, 20, 21, 22, 23, 24, 25, 40, 41, 42, 43, 44, 45, 46, 47, 48, 49, 50, 51, 52, 53] (by eq_refl) gw_wsX9_give
set_option maxRecDepth 20000 in
theorem gX9_allPrimes_X9_give : GoodIn wsX9_allPrimes (wsV RX9 89 RX9 yX9_give wsX9_give) := goodIn_app (goodIn_r _ [35, 36, 37, 4] (by eq_refl) (by decide +kernel)) ggX9_allPrimes_X9_give
set_option maxRecDepth 20000 in
theorem ggX9_checkOf_X9_degreeOf : GoodIn wsX9_checkOf wsX9_degreeOf := goodIn_r _ [4, 5, 6, 7, 8, 9, 10, 11, 12, 13] (by eq_refl) gw_wsX9_degreeOf
set_option maxRecDepth 20000 in
theorem gX9_checkOf_X9_degreeOf : GoodIn wsX9_checkOf (va_wsS RX9 41 yX9_degreeOf wsX9_degreeOf) := goodIn_app (goodIn_r _ [1, 2, 3] (by eq_refl) (by decide +kernel)) ggX9_checkOf_X9_degreeOf
set_option maxRecDepth 20000 in
theorem ggX9_checkOf_X9_restOf : GoodIn wsX9_checkOf wsX9_restOf := goodIn_r _ [16, 17, 18, 3, 19, 1, 2, 4, 5, 6, 7, 8, 9, 10, 11, 12, 13, 20, 21, 22] (by eq_refl) gw_wsX9_restOf
set_option maxRecDepth 20000 in
theorem gX9_checkOf_X9_restOf : GoodIn wsX9_checkOf (va_wsS RX9 51 yX9_restOf wsX9_restOf) := goodIn_app (goodIn_r _ [14, 15, 3] (by eq_refl) (by decide +kernel)) ggX9_checkOf_X9_restOf
set_option maxRecDepth 20000 in
theorem ggX9_isNoSeal_X9_degreeOf : GoodIn wsX9_isNoSeal wsX9_degreeOf := goodIn_r _ [4, 5, 6, 7, 8, 9, 10, 11, 12, 13] (by eq_refl) gw_wsX9_degreeOf
set_option maxRecDepth 20000 in
theorem gX9_isNoSeal_X9_degreeOf : GoodIn wsX9_isNoSeal (va_wsS RX9 41 yX9_degreeOf wsX9_degreeOf) := goodIn_app (goodIn_r _ [1, 2, 3] (by eq_refl) (by decide +kernel)) ggX9_isNoSeal_X9_degreeOf
set_option maxRecDepth 20000 in
theorem ggX9_seal_X9_areNot : GoodIn wsX9_seal wsX9_areNot := goodIn_r _ [6, 7, 8, 5, 9, 10, 11, 12, 13, 14, 15, 16, 17, 18, 65, 66, 67, 68, 69, 70, 71, 72, 73] (by eq_refl) gw_wsX9_areNot
set_option maxRecDepth 20000 in
theorem gX9_seal_X9_areNot : GoodIn wsX9_seal (wsV RX9 101 RX9 yX9_areNot wsX9_areNot) := goodIn_app (goodIn_r _ [2, 3, 4, 5] (by eq_refl) (by decide +kernel)) ggX9_seal_X9_areNot
set_option maxRecDepth 20000 in
theorem ggX9_seal_X9_isNoSeal : GoodIn wsX9_seal wsX9_isNoSeal := goodIn_r _ [21, 22, 23, 5, 24, 25, 26, 27, 28, 29, 30, 31, 32, 33] (by eq_refl) gw_wsX9_isNoSeal
set_option maxRecDepth 20000 in
theorem gX9_seal_X9_isNoSeal : GoodIn wsX9_seal (va_wsS RX9 116 yX9_isNoSeal wsX9_isNoSeal) := goodIn_app (goodIn_r _ [19, 20, 5] (by eq_refl) (by decide +kernel)) ggX9_seal_X9_isNoSeal
set_option maxRecDepth 20000 in
theorem ggX9_seal_X9_no : GoodIn wsX9_seal wsX9_no := goodIn_r _ [37, 38, 65, 66, 67, 68, 69, 70, 71, 72, 73] (by eq_refl) gw_wsX9_no
set_option maxRecDepth 20000 in
theorem gX9_seal_X9_no : GoodIn wsX9_seal (wsV RX9 93 RX9 yX9_no wsX9_no) := goodIn_app (goodIn_r _ [34, 35, 36, 5] (by eq_refl) (by decide +kernel)) ggX9_seal_X9_no
set_option maxRecDepth 20000 in
theorem ggX9_seal_X9_checkOf : GoodIn wsX9_seal wsX9_checkOf := goodIn_r _ [41, 22, 23, 5, 24, 25, 26, 27, 28, 29, 30, 31, 32, 33, 42, 43, 44, 45, 46, 47, 48, 49, 50] (by eq_refl) gw_wsX9_checkOf
set_option maxRecDepth 20000 in
theorem gX9_seal_X9_checkOf : GoodIn wsX9_seal (va_wsS RX9 120 yX9_checkOf wsX9_checkOf) := goodIn_app (goodIn_r _ [39, 40, 5] (by eq_refl) (by decide +kernel)) ggX9_seal_X9_checkOf
set_option maxRecDepth 20000 in
theorem ggX9_seal_X9_degreeOf : GoodIn wsX9_seal wsX9_degreeOf := goodIn_r _ [24, 25, 26, 27, 28, 29, 30, 31, 32, 33] (by eq_refl) gw_wsX9_degreeOf
set_option maxRecDepth 20000 in
theorem gX9_seal_X9_degreeOf : GoodIn wsX9_seal (va_wsS RX9 41 yX9_degreeOf wsX9_degreeOf) := goodIn_app (goodIn_r _ [22, 23, 5] (by eq_refl) (by decide +kernel)) ggX9_seal_X9_degreeOf
set_option maxRecDepth 20000 in
theorem ggX9_seal_X9_onesOf : GoodIn wsX9_seal wsX9_onesOf := goodIn_r _ [53, 54, 55, 27, 56, 57, 58, 59] (by eq_refl) gw_wsX9_onesOf
set_option maxRecDepth 20000 in
theorem gX9_seal_X9_onesOf : GoodIn wsX9_seal (va_wsS RX9 60 yX9_onesOf wsX9_onesOf) := goodIn_app (goodIn_r _ [51, 52, 5] (by eq_refl) (by decide +kernel)) ggX9_seal_X9_onesOf
set_option maxRecDepth 20000 in
theorem ggX9_seal_X9_done : GoodIn wsX9_seal wsX9_done := goodIn_r _ [63, 64, 65, 66, 67, 68, 69, 70, 71, 72, 73] (by eq_refl) gw_wsX9_done
set_option maxRecDepth 20000 in
theorem gX9_seal_X9_done : GoodIn wsX9_seal (wsV RX9 80 RX9 yX9_done wsX9_done) := goodIn_app (goodIn_r _ [60, 61, 62, 5] (by eq_refl) (by decide +kernel)) ggX9_seal_X9_done
set_option maxRecDepth 20000 in
theorem ggX9_burst_X9_isForm : GoodIn wsX9_burst wsX9_isForm := goodIn_r _ [5] (by eq_refl) gw_wsX9_isForm
set_option maxRecDepth 20000 in
theorem gX9_burst_X9_isForm : GoodIn wsX9_burst (va_wsS RX9 67 yX9_isForm wsX9_isForm) := goodIn_app (goodIn_r _ [2, 3, 4] (by eq_refl) (by decide +kernel)) ggX9_burst_X9_isForm
set_option maxRecDepth 20000 in
theorem ggX9_burst_X9_isPlace : GoodIn wsX9_burst wsX9_isPlace := goodIn_r _ [8] (by eq_refl) gw_wsX9_isPlace
set_option maxRecDepth 20000 in
theorem gX9_burst_X9_isPlace : GoodIn wsX9_burst (va_wsS RX9 84 yX9_isPlace wsX9_isPlace) := goodIn_app (goodIn_r _ [6, 7, 4] (by eq_refl) (by decide +kernel)) ggX9_burst_X9_isPlace
set_option maxRecDepth 20000 in
theorem ggX9_burst_X9_isThrown : GoodIn wsX9_burst wsX9_isThrown := goodIn_r _ [12, 13, 45, 46, 47, 48, 49, 50, 51, 52, 53] (by eq_refl) gw_wsX9_isThrown
set_option maxRecDepth 20000 in
theorem gX9_burst_X9_isThrown : GoodIn wsX9_burst (wsV RX9 63 RX9 yX9_isThrown wsX9_isThrown) := goodIn_app (goodIn_r _ [9, 10, 11, 4] (by eq_refl) (by decide +kernel)) ggX9_burst_X9_isThrown
set_option maxRecDepth 20000 in
theorem ggX9_burst_X9_degreeOf : GoodIn wsX9_burst wsX9_degreeOf := goodIn_r _ [16, 17, 18, 19, 20, 21, 22, 23, 24, 25] (by eq_refl) gw_wsX9_degreeOf
set_option maxRecDepth 20000 in
theorem gX9_burst_X9_degreeOf : GoodIn wsX9_burst (va_wsS RX9 41 yX9_degreeOf wsX9_degreeOf) := goodIn_app (goodIn_r _ [14, 15, 4] (by eq_refl) (by decide +kernel)) ggX9_burst_X9_degreeOf
set_option maxRecDepth 20000 in
theorem ggX9_burst_X9_no : GoodIn wsX9_burst wsX9_no := goodIn_r _ [29, 30, 45, 46, 47, 48, 49, 50, 51, 52, 53] (by eq_refl) gw_wsX9_no
set_option maxRecDepth 20000 in
theorem gX9_burst_X9_no : GoodIn wsX9_burst (wsV RX9 93 RX9 yX9_no wsX9_no) := goodIn_app (goodIn_r _ [26, 27, 28, 4] (by eq_refl) (by decide +kernel)) ggX9_burst_X9_no
set_option maxRecDepth 20000 in
theorem ggX9_burst_X9_onesOf : GoodIn wsX9_burst wsX9_onesOf := goodIn_r _ [33, 34, 35, 19, 36, 37, 38, 39] (by eq_refl) gw_wsX9_onesOf
set_option maxRecDepth 20000 in
theorem gX9_burst_X9_onesOf : GoodIn wsX9_burst (va_wsS RX9 60 yX9_onesOf wsX9_onesOf) := goodIn_app (goodIn_r _ [31, 32, 4] (by eq_refl) (by decide +kernel)) ggX9_burst_X9_onesOf
set_option maxRecDepth 20000 in
theorem ggX9_burst_X9_done : GoodIn wsX9_burst wsX9_done := goodIn_r _ [43, 44, 45, 46, 47, 48, 49, 50, 51, 52, 53] (by eq_refl) gw_wsX9_done
set_option maxRecDepth 20000 in
theorem gX9_burst_X9_done : GoodIn wsX9_burst (wsV RX9 80 RX9 yX9_done wsX9_done) := goodIn_app (goodIn_r _ [40, 41, 42, 4] (by eq_refl) (by decide +kernel)) ggX9_burst_X9_done
set_option maxRecDepth 20000 in
theorem ggX9_factor_X9_isForm : GoodIn wsX9_factor wsX9_isForm := goodIn_r _ [7] (by eq_refl) gw_wsX9_isForm
set_option maxRecDepth 20000 in
theorem gX9_factor_X9_isForm : GoodIn wsX9_factor (va_wsS RX9 67 yX9_isForm wsX9_isForm) := goodIn_app (goodIn_r _ [4, 5, 6] (by eq_refl) (by decide +kernel)) ggX9_factor_X9_isForm
set_option maxRecDepth 20000 in
theorem ggX9_factor_X9_isThrown : GoodIn wsX9_factor wsX9_isThrown := goodIn_r _ [11, 12, 48, 49, 50, 51, 52, 53, 54, 55, 56] (by eq_refl) gw_wsX9_isThrown
set_option maxRecDepth 20000 in
theorem gX9_factor_X9_isThrown : GoodIn wsX9_factor (wsV RX9 63 RX9 yX9_isThrown wsX9_isThrown) := goodIn_app (goodIn_r _ [8, 9, 10, 6] (by eq_refl) (by decide +kernel)) ggX9_factor_X9_isThrown
set_option maxRecDepth 20000 in
theorem ggX9_factor_X9_degreeOf : GoodIn wsX9_factor wsX9_degreeOf := goodIn_r _ [15, 16, 17, 18, 19, 20, 21, 22, 23, 24] (by eq_refl) gw_wsX9_degreeOf
set_option maxRecDepth 20000 in
theorem gX9_factor_X9_degreeOf : GoodIn wsX9_factor (va_wsS RX9 41 yX9_degreeOf wsX9_degreeOf) := goodIn_app (goodIn_r _ [13, 14, 6] (by eq_refl) (by decide +kernel)) ggX9_factor_X9_degreeOf
set_option maxRecDepth 20000 in
theorem ggX9_factor_X9_no : GoodIn wsX9_factor wsX9_no := goodIn_r _ [28, 29, 48, 49, 50, 51, 52, 53, 54, 55, 56] (by eq_refl) gw_wsX9_no
set_option maxRecDepth 20000 in
theorem gX9_factor_X9_no : GoodIn wsX9_factor (wsV RX9 93 RX9 yX9_no wsX9_no) := goodIn_app (goodIn_r _ [25, 26, 27, 6] (by eq_refl) (by decide +kernel)) ggX9_factor_X9_no
set_option maxRecDepth 20000 in
theorem ggX9_factor_X9_least : GoodIn wsX9_factor wsX9_least := goodIn_r _ [32, 33, 13, 14, 6, 15, 16, 17, 18, 19, 20, 21, 22, 23, 24, 34, 35, 36, 37, 38, 39, 40, 41, 42] (by eq_refl) gw_wsX9_least
set_option maxRecDepth 20000 in
theorem gX9_factor_X9_least : GoodIn wsX9_factor (va_wsS RX9 126 yX9_least wsX9_least) := goodIn_app (goodIn_r _ [30, 31, 6] (by eq_refl) (by decide +kernel)) ggX9_factor_X9_least
set_option maxRecDepth 20000 in
theorem ggX9_factor_X9_quotientOf : GoodIn wsX9_factor wsX9_quotientOf := goodIn_r _ [39, 13, 14, 6, 15, 16, 17, 18, 19, 20, 21, 22, 23, 24] (by eq_refl) gw_wsX9_quotientOf
set_option maxRecDepth 20000 in
theorem gX9_factor_X9_quotientOf : GoodIn wsX9_factor (va_wsS RX9 44 yX9_quotientOf wsX9_quotientOf) := goodIn_app (goodIn_r _ [37, 38, 6] (by eq_refl) (by decide +kernel)) ggX9_factor_X9_quotientOf
set_option maxRecDepth 20000 in
theorem ggX9_factor_X9_done : GoodIn wsX9_factor wsX9_done := goodIn_r _ [46, 47, 48, 49, 50, 51, 52, 53, 54, 55, 56] (by eq_refl) gw_wsX9_done
set_option maxRecDepth 20000 in
theorem gX9_factor_X9_done : GoodIn wsX9_factor (wsV RX9 80 RX9 yX9_done wsX9_done) := goodIn_app (goodIn_r _ [43, 44, 45, 6] (by eq_refl) (by decide +kernel)) ggX9_factor_X9_done
set_option maxRecDepth 20000 in
theorem ggX9_enroll_X9_isForm : GoodIn wsX9_enroll wsX9_isForm := goodIn_r _ [7] (by eq_refl) gw_wsX9_isForm
set_option maxRecDepth 20000 in
theorem gX9_enroll_X9_isForm : GoodIn wsX9_enroll (va_wsS RX9 67 yX9_isForm wsX9_isForm) := goodIn_app (goodIn_r _ [4, 5, 6] (by eq_refl) (by decide +kernel)) ggX9_enroll_X9_isForm
set_option maxRecDepth 20000 in
theorem ggX9_enroll_X9_isThrown_ : GoodIn wsX9_enroll wsX9_isThrown_ := goodIn_r _ [11, 12, 13, 14, 6, 15, 16, 27, 28, 29, 30, 31, 32, 33, 34, 35] (by eq_refl) gw_wsX9_isThrown_
set_option maxRecDepth 20000 in
theorem gX9_enroll_X9_isThrown_ : GoodIn wsX9_enroll (wsV RX9 71 RX9 yX9_isThrown_ wsX9_isThrown_) := goodIn_app (goodIn_r _ [8, 9, 10, 6] (by eq_refl) (by decide +kernel)) ggX9_enroll_X9_isThrown_
set_option maxRecDepth 20000 in
theorem ggX9_enroll_X9_no : GoodIn wsX9_enroll wsX9_no := goodIn_r _ [20, 21, 27, 28, 29, 30, 31, 32, 33, 34, 35] (by eq_refl) gw_wsX9_no
set_option maxRecDepth 20000 in
theorem gX9_enroll_X9_no : GoodIn wsX9_enroll (wsV RX9 93 RX9 yX9_no wsX9_no) := goodIn_app (goodIn_r _ [17, 18, 19, 6] (by eq_refl) (by decide +kernel)) ggX9_enroll_X9_no
set_option maxRecDepth 20000 in
theorem ggX9_enroll_X9_done : GoodIn wsX9_enroll wsX9_done := goodIn_r _ [25, 26, 27, 28, 29, 30, 31, 32, 33, 34, 35] (by eq_refl) gw_wsX9_done
set_option maxRecDepth 20000 in
theorem gX9_enroll_X9_done : GoodIn wsX9_enroll (wsV RX9 80 RX9 yX9_done wsX9_done) := goodIn_app (goodIn_r _ [22, 23, 24, 6] (by eq_refl) (by decide +kernel)) ggX9_enroll_X9_done
set_option maxRecDepth 20000 in
theorem ggX9_strike_X9_isThrown_ : GoodIn wsX9_strike wsX9_isThrown_ := goodIn_r _ [7, 8, 9, 10, 6, 11, 12, 30, 31, 32, 33, 34, 35, 36, 37, 38] (by eq_refl) gw_wsX9_isThrown_
set_option maxRecDepth 20000 in
theorem gX9_strike_X9_isThrown_ : GoodIn wsX9_strike (wsV RX9 71 RX9 yX9_isThrown_ wsX9_isThrown_) := goodIn_app (goodIn_r _ [3, 4, 5, 6] (by eq_refl) (by decide +kernel)) ggX9_strike_X9_isThrown_
set_option maxRecDepth 20000 in
theorem ggX9_strike_X9_degreeOf : GoodIn wsX9_strike wsX9_degreeOf := goodIn_r _ [15, 16, 17, 18, 19, 20, 21, 22, 23, 24] (by eq_refl) gw_wsX9_degreeOf
set_option maxRecDepth 20000 in
theorem gX9_strike_X9_degreeOf : GoodIn wsX9_strike (va_wsS RX9 41 yX9_degreeOf wsX9_degreeOf) := goodIn_app (goodIn_r _ [13, 14, 6] (by eq_refl) (by decide +kernel)) ggX9_strike_X9_degreeOf
set_option maxRecDepth 20000 in
theorem ggX9_strike_X9_done : GoodIn wsX9_strike wsX9_done := goodIn_r _ [28, 29, 30, 31, 32, 33, 34, 35, 36, 37, 38] (by eq_refl) gw_wsX9_done
set_option maxRecDepth 20000 in
theorem gX9_strike_X9_done : GoodIn wsX9_strike (wsV RX9 80 RX9 yX9_done wsX9_done) := goodIn_app (goodIn_r _ [25, 26, 27, 6] (by eq_refl) (by decide +kernel)) ggX9_strike_X9_done
set_option maxRecDepth 20000 in
theorem ggX9_clear_X9_done : GoodIn wsX9_clear wsX9_done := goodIn_r _ [7, 8, 9, 10, 11, 12, 13, 14, 15, 16, 17] (by eq_refl) gw_wsX9_done
set_option maxRecDepth 20000 in
theorem gX9_clear_X9_done : GoodIn wsX9_clear (wsV RX9 80 RX9 yX9_done wsX9_done) := goodIn_app (goodIn_r _ [3, 4, 5, 6] (by eq_refl) (by decide +kernel)) ggX9_clear_X9_done
set_option maxRecDepth 20000 in
theorem ggX9_sort_X9_done : GoodIn wsX9_sort wsX9_done := goodIn_r _ [9, 10, 11, 12, 13, 14, 15, 16, 17, 18, 19] (by eq_refl) gw_wsX9_done
set_option maxRecDepth 20000 in
theorem gX9_sort_X9_done : GoodIn wsX9_sort (wsV RX9 80 RX9 yX9_done wsX9_done) := goodIn_app (goodIn_r _ [5, 6, 7, 8] (by eq_refl) (by decide +kernel)) ggX9_sort_X9_done
set_option maxRecDepth 20000 in
theorem ggX9_turnAll_X9_turnedOf : GoodIn wsX9_turnAll wsX9_turnedOf := goodIn_r _ [7, 8, 9, 6, 10, 11, 12, 13, 14, 15, 16, 17, 18, 19] (by eq_refl) gw_wsX9_turnedOf
set_option maxRecDepth 20000 in
theorem gX9_turnAll_X9_turnedOf : GoodIn wsX9_turnAll (va_wsS RX9 97 yX9_turnedOf wsX9_turnedOf) := goodIn_app (goodIn_r _ [4, 5, 6] (by eq_refl) (by decide +kernel)) ggX9_turnAll_X9_turnedOf
set_option maxRecDepth 20000 in
theorem ggX9_turnAll_X9_done : GoodIn wsX9_turnAll wsX9_done := goodIn_r _ [23, 24, 25, 26, 27, 28, 29, 30, 31, 32, 33] (by eq_refl) gw_wsX9_done
set_option maxRecDepth 20000 in
theorem gX9_turnAll_X9_done : GoodIn wsX9_turnAll (wsV RX9 80 RX9 yX9_done wsX9_done) := goodIn_app (goodIn_r _ [20, 21, 22, 6] (by eq_refl) (by decide +kernel)) ggX9_turnAll_X9_done
set_option maxRecDepth 20000 in
theorem ggX9_take_X9_isForm : GoodIn wsX9_take wsX9_isForm := goodIn_r _ [6] (by eq_refl) gw_wsX9_isForm
set_option maxRecDepth 20000 in
theorem gX9_take_X9_isForm : GoodIn wsX9_take (va_wsS RX9 67 yX9_isForm wsX9_isForm) := goodIn_app (goodIn_r _ [3, 4, 5] (by eq_refl) (by decide +kernel)) ggX9_take_X9_isForm
set_option maxRecDepth 20000 in
theorem ggX9_take_X9_isThrown_ : GoodIn wsX9_take wsX9_isThrown_ := goodIn_r _ [10, 11, 12, 13, 5, 14, 15, 38, 39, 40, 41, 42, 43, 44, 45, 46] (by eq_refl) gw_wsX9_isThrown_
set_option maxRecDepth 20000 in
theorem gX9_take_X9_isThrown_ : GoodIn wsX9_take (wsV RX9 71 RX9 yX9_isThrown_ wsX9_isThrown_) := goodIn_app (goodIn_r _ [7, 8, 9, 5] (by eq_refl) (by decide +kernel)) ggX9_take_X9_isThrown_
set_option maxRecDepth 20000 in
theorem ggX9_take_X9_give : GoodIn wsX9_take wsX9_give := goodIn_r _ [19, 20, 21, 22, 5, 23, 24, 25, 26, 27, 28, 29, 30, 31, 32, 33, 34, 35, 36, 37, 38, 39, 40, 41, 42, 43, 44, 45, 46] (by eq_refl) gw_wsX9_give
set_option maxRecDepth 20000 in
theorem gX9_take_X9_give : GoodIn wsX9_take (wsV RX9 89 RX9 yX9_give wsX9_give) := goodIn_app (goodIn_r _ [16, 17, 18, 5] (by eq_refl) (by decide +kernel)) ggX9_take_X9_give
set_option maxRecDepth 20000 in
theorem ggX9_product_X9_isForm : GoodIn wsX9_product wsX9_isForm := goodIn_r _ [6] (by eq_refl) gw_wsX9_isForm
set_option maxRecDepth 20000 in
theorem gX9_product_X9_isForm : GoodIn wsX9_product (va_wsS RX9 67 yX9_isForm wsX9_isForm) := goodIn_app (goodIn_r _ [3, 4, 5] (by eq_refl) (by decide +kernel)) ggX9_product_X9_isForm
set_option maxRecDepth 20000 in
theorem ggX9_product_X9_isThrown_ : GoodIn wsX9_product wsX9_isThrown_ := goodIn_r _ [10, 11, 12, 13, 5, 14, 15, 46, 47, 48, 49, 50, 51, 52, 53, 54] (by eq_refl) gw_wsX9_isThrown_
set_option maxRecDepth 20000 in
theorem gX9_product_X9_isThrown_ : GoodIn wsX9_product (wsV RX9 71 RX9 yX9_isThrown_ wsX9_isThrown_) := goodIn_app (goodIn_r _ [7, 8, 9, 5] (by eq_refl) (by decide +kernel)) ggX9_product_X9_isThrown_
set_option maxRecDepth 20000 in
theorem ggX9_product_X9_degreeOf : GoodIn wsX9_product wsX9_degreeOf := goodIn_r _ [18, 19, 20, 21, 22, 23, 24, 25, 26, 27] (by eq_refl) gw_wsX9_degreeOf
set_option maxRecDepth 20000 in
theorem gX9_product_X9_degreeOf : GoodIn wsX9_product (va_wsS RX9 41 yX9_degreeOf wsX9_degreeOf) := goodIn_app (goodIn_r _ [16, 17, 5] (by eq_refl) (by decide +kernel)) ggX9_product_X9_degreeOf
set_option maxRecDepth 20000 in
theorem ggX9_product_X9_no : GoodIn wsX9_product wsX9_no := goodIn_r _ [31, 32, 46, 47, 48, 49, 50, 51, 52, 53, 54] (by eq_refl) gw_wsX9_no
set_option maxRecDepth 20000 in
theorem gX9_product_X9_no : GoodIn wsX9_product (wsV RX9 93 RX9 yX9_no wsX9_no) := goodIn_app (goodIn_r _ [28, 29, 30, 5] (by eq_refl) (by decide +kernel)) ggX9_product_X9_no
set_option maxRecDepth 20000 in
theorem ggX9_product_X9_productOf : GoodIn wsX9_product wsX9_productOf := goodIn_r _ [35] (by eq_refl) gw_wsX9_productOf
set_option maxRecDepth 20000 in
theorem gX9_product_X9_productOf : GoodIn wsX9_product (va_wsS RX9 48 yX9_productOf wsX9_productOf) := goodIn_app (goodIn_r _ [33, 34, 5] (by eq_refl) (by decide +kernel)) ggX9_product_X9_productOf
set_option maxRecDepth 20000 in
theorem ggX9_product_X9_give : GoodIn wsX9_product wsX9_give := goodIn_r _ [39, 40, 16, 17, 5, 18, 19, 20, 21, 22, 23, 24, 25, 26, 27, 41, 42, 43, 44, 45, 46, 47, 48, 49, 50, 51, 52, 53, 54] (by eq_refl) gw_wsX9_give
set_option maxRecDepth 20000 in
theorem gX9_product_X9_give : GoodIn wsX9_product (wsV RX9 89 RX9 yX9_give wsX9_give) := goodIn_app (goodIn_r _ [36, 37, 38, 5] (by eq_refl) (by decide +kernel)) ggX9_product_X9_give
set_option maxRecDepth 20000 in
theorem ggX9_start_X9_isForm : GoodIn wsX9_start wsX9_isForm := goodIn_r _ [7] (by eq_refl) gw_wsX9_isForm
set_option maxRecDepth 20000 in
theorem gX9_start_X9_isForm : GoodIn wsX9_start (va_wsS RX9 67 yX9_isForm wsX9_isForm) := goodIn_app (goodIn_r _ [4, 5, 6] (by eq_refl) (by decide +kernel)) ggX9_start_X9_isForm
set_option maxRecDepth 20000 in
theorem ggX9_start_X9_isThrown_ : GoodIn wsX9_start wsX9_isThrown_ := goodIn_r _ [11, 12, 13, 14, 6, 15, 16, 42, 43, 44, 45, 46, 47, 48, 49, 50] (by eq_refl) gw_wsX9_isThrown_
set_option maxRecDepth 20000 in
theorem gX9_start_X9_isThrown_ : GoodIn wsX9_start (wsV RX9 71 RX9 yX9_isThrown_ wsX9_isThrown_) := goodIn_app (goodIn_r _ [8, 9, 10, 6] (by eq_refl) (by decide +kernel)) ggX9_start_X9_isThrown_
set_option maxRecDepth 20000 in
theorem ggX9_start_X9_isWheel : GoodIn wsX9_start wsX9_isWheel := goodIn_r _ [19, 20, 21, 6, 22, 23, 24, 25, 26, 27, 28, 29, 30, 31] (by eq_refl) gw_wsX9_isWheel
set_option maxRecDepth 20000 in
theorem gX9_start_X9_isWheel : GoodIn wsX9_start (va_wsS RX9 129 yX9_isWheel wsX9_isWheel) := goodIn_app (goodIn_r _ [17, 18, 6] (by eq_refl) (by decide +kernel)) ggX9_start_X9_isWheel
set_option maxRecDepth 20000 in
theorem ggX9_start_X9_no : GoodIn wsX9_start wsX9_no := goodIn_r _ [35, 36, 42, 43, 44, 45, 46, 47, 48, 49, 50] (by eq_refl) gw_wsX9_no
set_option maxRecDepth 20000 in
theorem gX9_start_X9_no : GoodIn wsX9_start (wsV RX9 93 RX9 yX9_no wsX9_no) := goodIn_app (goodIn_r _ [32, 33, 34, 6] (by eq_refl) (by decide +kernel)) ggX9_start_X9_no
set_option maxRecDepth 20000 in
theorem ggX9_start_X9_degreeOf : GoodIn wsX9_start wsX9_degreeOf := goodIn_r _ [22, 23, 24, 25, 26, 27, 28, 29, 30, 31] (by eq_refl) gw_wsX9_degreeOf
set_option maxRecDepth 20000 in
theorem gX9_start_X9_degreeOf : GoodIn wsX9_start (va_wsS RX9 41 yX9_degreeOf wsX9_degreeOf) := goodIn_app (goodIn_r _ [20, 21, 6] (by eq_refl) (by decide +kernel)) ggX9_start_X9_degreeOf
set_option maxRecDepth 20000 in
theorem ggX9_start_X9_done : GoodIn wsX9_start wsX9_done := goodIn_r _ [40, 41, 42, 43, 44, 45, 46, 47, 48, 49, 50] (by eq_refl) gw_wsX9_done
set_option maxRecDepth 20000 in
theorem gX9_start_X9_done : GoodIn wsX9_start (wsV RX9 80 RX9 yX9_done wsX9_done) := goodIn_app (goodIn_r _ [37, 38, 39, 6] (by eq_refl) (by decide +kernel)) ggX9_start_X9_done
set_option maxRecDepth 20000 in
theorem ggX9_step_X9_isThrown_ : GoodIn wsX9_step wsX9_isThrown_ := goodIn_r _ [6, 7, 8, 9, 5, 10, 11, 43, 44, 45, 46, 47, 48, 49, 50, 51] (by eq_refl) gw_wsX9_isThrown_
set_option maxRecDepth 20000 in
theorem gX9_step_X9_isThrown_ : GoodIn wsX9_step (wsV RX9 71 RX9 yX9_isThrown_ wsX9_isThrown_) := goodIn_app (goodIn_r _ [2, 3, 4, 5] (by eq_refl) (by decide +kernel)) ggX9_step_X9_isThrown_
set_option maxRecDepth 20000 in
theorem ggX9_step_X9_next : GoodIn wsX9_step wsX9_next := goodIn_r _ [15, 16, 17, 18, 5, 19, 20, 21, 22, 23, 24, 25, 26, 27, 28, 29, 30, 31, 32, 33, 34, 35, 36, 37, 43, 44, 45, 46, 47, 48, 49, 50, 51] (by eq_refl) gw_wsX9_next
set_option maxRecDepth 20000 in
theorem gX9_step_X9_next : GoodIn wsX9_step (wsV RX9 132 RX9 yX9_next wsX9_next) := goodIn_app (goodIn_r _ [12, 13, 14, 5] (by eq_refl) (by decide +kernel)) ggX9_step_X9_next
set_option maxRecDepth 20000 in
theorem ggX9_step_X9_done : GoodIn wsX9_step wsX9_done := goodIn_r _ [41, 42, 43, 44, 45, 46, 47, 48, 49, 50, 51] (by eq_refl) gw_wsX9_done
set_option maxRecDepth 20000 in
theorem gX9_step_X9_done : GoodIn wsX9_step (wsV RX9 80 RX9 yX9_done wsX9_done) := goodIn_app (goodIn_r _ [38, 39, 40, 5] (by eq_refl) (by decide +kernel)) ggX9_step_X9_done
set_option maxRecDepth 20000 in
theorem ggX9_load_X9_isThrown_ : GoodIn wsX9_load wsX9_isThrown_ := goodIn_r _ [7, 8, 9, 10, 6, 11, 12, 44, 45, 46, 47, 48, 49, 50, 51, 52] (by eq_refl) gw_wsX9_isThrown_
set_option maxRecDepth 20000 in
theorem gX9_load_X9_isThrown_ : GoodIn wsX9_load (wsV RX9 71 RX9 yX9_isThrown_ wsX9_isThrown_) := goodIn_app (goodIn_r _ [3, 4, 5, 6] (by eq_refl) (by decide +kernel)) ggX9_load_X9_isThrown_
set_option maxRecDepth 20000 in
theorem ggX9_load_X9_degreeOf : GoodIn wsX9_load wsX9_degreeOf := goodIn_r _ [15, 16, 17, 18, 19, 20, 21, 22, 23, 24] (by eq_refl) gw_wsX9_degreeOf
set_option maxRecDepth 20000 in
theorem gX9_load_X9_degreeOf : GoodIn wsX9_load (va_wsS RX9 41 yX9_degreeOf wsX9_degreeOf) := goodIn_app (goodIn_r _ [13, 14, 6] (by eq_refl) (by decide +kernel)) ggX9_load_X9_degreeOf
set_option maxRecDepth 20000 in
theorem ggX9_load_X9_no : GoodIn wsX9_load wsX9_no := goodIn_r _ [28, 29, 44, 45, 46, 47, 48, 49, 50, 51, 52] (by eq_refl) gw_wsX9_no
set_option maxRecDepth 20000 in
theorem gX9_load_X9_no : GoodIn wsX9_load (wsV RX9 93 RX9 yX9_no wsX9_no) := goodIn_app (goodIn_r _ [25, 26, 27, 6] (by eq_refl) (by decide +kernel)) ggX9_load_X9_no
set_option maxRecDepth 20000 in
theorem ggX9_load_X9_onesOf : GoodIn wsX9_load wsX9_onesOf := goodIn_r _ [32, 33, 34, 18, 35, 36, 37, 38] (by eq_refl) gw_wsX9_onesOf
set_option maxRecDepth 20000 in
theorem gX9_load_X9_onesOf : GoodIn wsX9_load (va_wsS RX9 60 yX9_onesOf wsX9_onesOf) := goodIn_app (goodIn_r _ [30, 31, 6] (by eq_refl) (by decide +kernel)) ggX9_load_X9_onesOf
set_option maxRecDepth 20000 in
theorem ggX9_load_X9_done : GoodIn wsX9_load wsX9_done := goodIn_r _ [42, 43, 44, 45, 46, 47, 48, 49, 50, 51, 52] (by eq_refl) gw_wsX9_done
set_option maxRecDepth 20000 in
theorem gX9_load_X9_done : GoodIn wsX9_load (wsV RX9 80 RX9 yX9_done wsX9_done) := goodIn_app (goodIn_r _ [39, 40, 41, 6] (by eq_refl) (by decide +kernel)) ggX9_load_X9_done
set_option maxRecDepth 20000 in
theorem ggX9_degree_X9_isForm : GoodIn wsX9_degree wsX9_isForm := goodIn_r _ [5] (by eq_refl) gw_wsX9_isForm
set_option maxRecDepth 20000 in
theorem gX9_degree_X9_isForm : GoodIn wsX9_degree (va_wsS RX9 67 yX9_isForm wsX9_isForm) := goodIn_app (goodIn_r _ [2, 3, 4] (by eq_refl) (by decide +kernel)) ggX9_degree_X9_isForm
set_option maxRecDepth 20000 in
theorem ggX9_degree_X9_isThrown_ : GoodIn wsX9_degree wsX9_isThrown_ := goodIn_r _ [9, 10, 11, 12, 4, 13, 14, 27, 28, 29, 30, 31, 32, 33, 34, 35] (by eq_refl) gw_wsX9_isThrown_
set_option maxRecDepth 20000 in
theorem gX9_degree_X9_isThrown_ : GoodIn wsX9_degree (wsV RX9 71 RX9 yX9_isThrown_ wsX9_isThrown_) := goodIn_app (goodIn_r _ [6, 7, 8, 4] (by eq_refl) (by decide +kernel)) ggX9_degree_X9_isThrown_
set_option maxRecDepth 20000 in
theorem ggX9_degree_X9_degreeOf : GoodIn wsX9_degree wsX9_degreeOf := goodIn_r _ [17, 18, 19, 20, 21, 22, 23, 24, 25, 26] (by eq_refl) gw_wsX9_degreeOf
set_option maxRecDepth 20000 in
theorem gX9_degree_X9_degreeOf : GoodIn wsX9_degree (va_wsS RX9 41 yX9_degreeOf wsX9_degreeOf) := goodIn_app (goodIn_r _ [15, 16, 4] (by eq_refl) (by decide +kernel)) ggX9_degree_X9_degreeOf
set_option maxRecDepth 20000 in
theorem ggX9_code_X9_isForm : GoodIn wsX9_code wsX9_isForm := goodIn_r _ [5] (by eq_refl) gw_wsX9_isForm
set_option maxRecDepth 20000 in
theorem gX9_code_X9_isForm : GoodIn wsX9_code (va_wsS RX9 67 yX9_isForm wsX9_isForm) := goodIn_app (goodIn_r _ [2, 3, 4] (by eq_refl) (by decide +kernel)) ggX9_code_X9_isForm
set_option maxRecDepth 20000 in
theorem ggX9_code_X9_isThrown_ : GoodIn wsX9_code wsX9_isThrown_ := goodIn_r _ [9, 10, 11, 12, 4, 13, 14, 27, 28, 29, 30, 31, 32, 33, 34, 35] (by eq_refl) gw_wsX9_isThrown_
set_option maxRecDepth 20000 in
theorem gX9_code_X9_isThrown_ : GoodIn wsX9_code (wsV RX9 71 RX9 yX9_isThrown_ wsX9_isThrown_) := goodIn_app (goodIn_r _ [6, 7, 8, 4] (by eq_refl) (by decide +kernel)) ggX9_code_X9_isThrown_
set_option maxRecDepth 20000 in
theorem ggX9_code_X9_degreeOf : GoodIn wsX9_code wsX9_degreeOf := goodIn_r _ [17, 18, 19, 20, 21, 22, 23, 24, 25, 26] (by eq_refl) gw_wsX9_degreeOf
set_option maxRecDepth 20000 in
theorem gX9_code_X9_degreeOf : GoodIn wsX9_code (va_wsS RX9 41 yX9_degreeOf wsX9_degreeOf) := goodIn_app (goodIn_r _ [15, 16, 4] (by eq_refl) (by decide +kernel)) ggX9_code_X9_degreeOf
set_option maxRecDepth 20000 in
theorem ggX9_has_X9_isForm : GoodIn wsX9_has wsX9_isForm := goodIn_r _ [5] (by eq_refl) gw_wsX9_isForm
set_option maxRecDepth 20000 in
theorem gX9_has_X9_isForm : GoodIn wsX9_has (va_wsS RX9 67 yX9_isForm wsX9_isForm) := goodIn_app (goodIn_r _ [2, 3, 4] (by eq_refl) (by decide +kernel)) ggX9_has_X9_isForm
set_option maxRecDepth 20000 in
theorem ggX9_has_X9_isPlace : GoodIn wsX9_has wsX9_isPlace := goodIn_r _ [8] (by eq_refl) gw_wsX9_isPlace
set_option maxRecDepth 20000 in
theorem gX9_has_X9_isPlace : GoodIn wsX9_has (va_wsS RX9 84 yX9_isPlace wsX9_isPlace) := goodIn_app (goodIn_r _ [6, 7, 4] (by eq_refl) (by decide +kernel)) ggX9_has_X9_isPlace
set_option maxRecDepth 20000 in
theorem ggX9_has_X9_isThrown_ : GoodIn wsX9_has wsX9_isThrown_ := goodIn_r _ [12, 13, 14, 15, 4, 16, 17, 18, 19, 20, 21, 22, 23, 24, 25, 26] (by eq_refl) gw_wsX9_isThrown_
set_option maxRecDepth 20000 in
theorem gX9_has_X9_isThrown_ : GoodIn wsX9_has (wsV RX9 71 RX9 yX9_isThrown_ wsX9_isThrown_) := goodIn_app (goodIn_r _ [9, 10, 11, 4] (by eq_refl) (by decide +kernel)) ggX9_has_X9_isThrown_
set_option maxRecDepth 20000 in
theorem ggX9_ones_X9_isForm : GoodIn wsX9_ones wsX9_isForm := goodIn_r _ [5] (by eq_refl) gw_wsX9_isForm
set_option maxRecDepth 20000 in
theorem gX9_ones_X9_isForm : GoodIn wsX9_ones (va_wsS RX9 67 yX9_isForm wsX9_isForm) := goodIn_app (goodIn_r _ [2, 3, 4] (by eq_refl) (by decide +kernel)) ggX9_ones_X9_isForm
set_option maxRecDepth 20000 in
theorem ggX9_ones_X9_isThrown_ : GoodIn wsX9_ones wsX9_isThrown_ := goodIn_r _ [9, 10, 11, 12, 4, 13, 14, 25, 26, 27, 28, 29, 30, 31, 32, 33] (by eq_refl) gw_wsX9_isThrown_
set_option maxRecDepth 20000 in
theorem gX9_ones_X9_isThrown_ : GoodIn wsX9_ones (wsV RX9 71 RX9 yX9_isThrown_ wsX9_isThrown_) := goodIn_app (goodIn_r _ [6, 7, 8, 4] (by eq_refl) (by decide +kernel)) ggX9_ones_X9_isThrown_
set_option maxRecDepth 20000 in
theorem ggX9_ones_X9_onesOf : GoodIn wsX9_ones wsX9_onesOf := goodIn_r _ [17, 18, 19, 20, 21, 22, 23, 24] (by eq_refl) gw_wsX9_onesOf
set_option maxRecDepth 20000 in
theorem gX9_ones_X9_onesOf : GoodIn wsX9_ones (va_wsS RX9 60 yX9_onesOf wsX9_onesOf) := goodIn_app (goodIn_r _ [15, 16, 4] (by eq_refl) (by decide +kernel)) ggX9_ones_X9_onesOf
set_option maxRecDepth 20000 in
theorem ggX9_lowest_X9_isForm : GoodIn wsX9_lowest wsX9_isForm := goodIn_r _ [5] (by eq_refl) gw_wsX9_isForm
set_option maxRecDepth 20000 in
theorem gX9_lowest_X9_isForm : GoodIn wsX9_lowest (va_wsS RX9 67 yX9_isForm wsX9_isForm) := goodIn_app (goodIn_r _ [2, 3, 4] (by eq_refl) (by decide +kernel)) ggX9_lowest_X9_isForm
set_option maxRecDepth 20000 in
theorem ggX9_lowest_X9_isThrown_ : GoodIn wsX9_lowest wsX9_isThrown_ := goodIn_r _ [9, 10, 11, 12, 4, 13, 14, 27, 28, 29, 30, 31, 32, 33, 34, 35] (by eq_refl) gw_wsX9_isThrown_
set_option maxRecDepth 20000 in
theorem gX9_lowest_X9_isThrown_ : GoodIn wsX9_lowest (wsV RX9 71 RX9 yX9_isThrown_ wsX9_isThrown_) := goodIn_app (goodIn_r _ [6, 7, 8, 4] (by eq_refl) (by decide +kernel)) ggX9_lowest_X9_isThrown_
set_option maxRecDepth 20000 in
theorem ggX9_lowest_X9_lowestOf : GoodIn wsX9_lowest wsX9_lowestOf := goodIn_r _ [17, 18, 19, 20, 21, 22, 23, 24, 25, 26] (by eq_refl) gw_wsX9_lowestOf
set_option maxRecDepth 20000 in
theorem gX9_lowest_X9_lowestOf : GoodIn wsX9_lowest (va_wsS RX9 135 yX9_lowestOf wsX9_lowestOf) := goodIn_app (goodIn_r _ [15, 16, 4] (by eq_refl) (by decide +kernel)) ggX9_lowest_X9_lowestOf
set_option maxRecDepth 20000 in
theorem ggX9_textOf_J4_init_da8c8 : GoodIn wsX9_textOf wsJ4_init_da8c8 := goodIn_r _ [6, 7, 8, 9, 10, 11, 12, 13, 14, 15, 16, 17, 18, 19, 20, 21, 22, 23, 24, 25, 238, 239, 240, 241] (by eq_refl) gw_wsJ4_init_da8c8
set_option maxRecDepth 20000 in
theorem gX9_textOf_J4_init_da8c8 : GoodIn wsX9_textOf (wsJ4_init_da8c8) := ggX9_textOf_J4_init_da8c8
set_option maxRecDepth 20000 in
theorem ggX9_textOf_J4_length_8abf5 : GoodIn wsX9_textOf wsJ4_length_8abf5 := goodIn_r _ [29, 30, 31, 32, 33, 9, 34, 35, 238, 239, 240, 241] (by eq_refl) gw_wsJ4_length_8abf5
set_option maxRecDepth 20000 in
theorem gX9_textOf_J4_length_8abf5 : GoodIn wsX9_textOf (wsV RX9 141 RJ4 yJ4_length_8abf5 wsJ4_length_8abf5) := goodIn_app (goodIn_r _ [26, 27, 28, 3] (by eq_refl) (by decide +kernel)) ggX9_textOf_J4_length_8abf5
set_option maxRecDepth 20000 in
theorem ggX9_textOf_J4_append_15ec4 : GoodIn wsX9_textOf wsJ4_append_15ec4 := goodIn_r _ [39, 40, 41, 32, 42, 9, 43, 35, 44, 45, 46, 47, 48, 16, 49, 50, 51, 52, 53, 17, 54, 55, 56, 57, 58, 59, 60, 61, 62, 63, 64, 65, 66, 67, 68, 69, 70, 71, 72, 73, 74, 75, 76, 77, 78, 79, 80, 81, 15, 82, 83, 84, 85, 86, 87, 88, 89, 90, 91, 92, 93, 14, 94, 95, 20, 96, 97, 98, 99, 100, 101, 102, 103, 104, 105, 106, 107, 108, 109, 110, 111, 112, 113, 114, 115, 116, 117, 118, 119, 120, 121, 122, 123, 124, 125, 126, 127, 128, 129, 130, 131, 132, 133, 134, 135, 136, 137, 138, 139, 140, 141, 142, 143, 144, 18, 19, 21, 22, 23, 24, 25, 145, 146, 147, 148, 149, 150, 151, 152, 153, 154, 155, 156, 157, 158, 159, 160, 161, 162, 163, 164, 165, 166, 238, 239, 240, 241, 242, 243, 244, 245] (by eq_refl) gw_wsJ4_append_15ec4
set_option maxRecDepth 20000 in
theorem gX9_textOf_J4_append_15ec4 : GoodIn wsX9_textOf (wsV RX9 148 RJ4 yJ4_append_15ec4 wsJ4_append_15ec4) := goodIn_app (goodIn_r _ [36, 37, 38, 3] (by eq_refl) (by decide +kernel)) ggX9_textOf_J4_append_15ec4
set_option maxRecDepth 20000 in
theorem ggX9_textOf_J4_append_bf812 : GoodIn wsX9_textOf wsJ4_append_bf812 := goodIn_r _ [170, 171, 172, 32, 173, 9, 174, 35, 16, 175, 176, 177, 178, 49, 50, 51, 52, 53, 17, 54, 55, 56, 57, 58, 59, 60, 61, 62, 63, 64, 65, 66, 67, 68, 69, 70, 71, 72, 73, 74, 75, 76, 77, 78, 79, 80, 81, 15, 82, 83, 84, 85, 86, 87, 88, 89, 90, 91, 92, 93, 14, 179, 180, 181, 182, 183, 184, 185, 20, 186, 97, 98, 99, 100, 101, 102, 103, 104, 105, 106, 107, 108, 109, 110, 111, 112, 187, 188, 189, 190, 191, 113, 114, 115, 116, 117, 238, 239, 240, 241] (by eq_refl) gw_wsJ4_append_bf812
set_option maxRecDepth 20000 in
theorem gX9_textOf_J4_append_bf812 : GoodIn wsX9_textOf (wsV RX9 152 RJ4 yJ4_append_bf812 wsJ4_append_bf812) := goodIn_app (goodIn_r _ [167, 168, 169, 3] (by eq_refl) (by decide +kernel)) ggX9_textOf_J4_append_bf812
set_option maxRecDepth 20000 in
theorem ggX9_textOf_J4_toString_0e30d : GoodIn wsX9_textOf wsJ4_toString_0e30d := goodIn_r _ [195, 196, 197, 106, 198, 199, 200, 201, 202, 203, 204, 12, 13, 128, 122, 127, 205, 206, 207, 208, 209, 9, 210, 16, 211, 31, 212, 213, 27, 3, 29, 30, 32, 33, 34, 35, 214, 90, 91, 92, 93, 14, 17, 215, 216, 74, 217, 76, 77, 78, 79, 80, 81, 218, 219, 220, 15, 82, 83, 66, 84, 85, 86, 87, 88, 221, 222, 223, 224, 2, 225, 226, 20, 227, 228, 229, 230, 152, 153, 154, 101, 102, 103, 155, 156, 157, 108, 158, 159, 111, 160, 231, 232, 233, 97, 116, 117, 22, 23, 24, 25, 234, 235, 236, 237, 242, 243, 244, 245, 238, 239, 240, 241] (by eq_refl) gw_wsJ4_toString_0e30d
set_option maxRecDepth 20000 in
theorem gX9_textOf_J4_toString_0e30d : GoodIn wsX9_textOf (wsV RX9 155 RJ4 yJ4_toString_0e30d wsJ4_toString_0e30d) := goodIn_app (goodIn_r _ [192, 193, 194, 3] (by eq_refl) (by decide +kernel)) ggX9_textOf_J4_toString_0e30d
set_option maxRecDepth 20000 in
theorem ggX9_text_X9_isForm : GoodIn wsX9_text wsX9_isForm := goodIn_r _ [5] (by eq_refl) gw_wsX9_isForm
set_option maxRecDepth 20000 in
theorem gX9_text_X9_isForm : GoodIn wsX9_text (va_wsS RX9 67 yX9_isForm wsX9_isForm) := goodIn_app (goodIn_r _ [2, 3, 4] (by eq_refl) (by decide +kernel)) ggX9_text_X9_isForm
set_option maxRecDepth 20000 in
theorem ggX9_text_X9_isThrown_ : GoodIn wsX9_text wsX9_isThrown_ := goodIn_r _ [9, 10, 11, 12, 4, 13, 14, 255, 256, 257, 258, 259, 260, 261, 262, 263] (by eq_refl) gw_wsX9_isThrown_
set_option maxRecDepth 20000 in
theorem gX9_text_X9_isThrown_ : GoodIn wsX9_text (wsV RX9 71 RX9 yX9_isThrown_ wsX9_isThrown_) := goodIn_app (goodIn_r _ [6, 7, 8, 4] (by eq_refl) (by decide +kernel)) ggX9_text_X9_isThrown_
set_option maxRecDepth 20000 in
theorem ggX9_text_X9_textOf : GoodIn wsX9_text wsX9_textOf := goodIn_r _ [17, 18, 19, 20, 21, 22, 23, 24, 25, 26, 27, 28, 29, 30, 31, 32, 33, 34, 35, 36, 37, 38, 39, 40, 41, 42, 43, 44, 45, 46, 47, 48, 49, 50, 51, 52, 53, 54, 55, 56, 57, 58, 59, 60, 61, 62, 63, 64, 65, 66, 67, 68, 69, 70, 71, 72, 73, 74, 75, 76, 77, 78, 79, 80, 81, 82, 83, 84, 85, 86, 87, 88, 89, 90, 91, 92, 93, 94, 95, 96, 97, 98, 99, 100, 101, 102, 103, 104, 105, 106, 107, 108, 109, 110, 111, 112, 113, 114, 115, 116, 117, 118, 119, 120, 121, 122, 123, 124, 125, 126, 127, 128, 129, 130, 131, 132, 133, 134, 135, 136, 137, 138, 139, 140, 141, 142, 143, 144, 145, 146, 147, 148, 149, 150, 151, 152, 153, 154, 155, 156, 157, 158, 159, 160, 161, 162, 163, 164, 165, 166, 167, 168, 169, 170, 171, 172, 173, 174, 175, 176, 177, 178, 179, 180, 181, 182, 183, 184, 185, 186, 187, 188, 189, 190, 191, 192, 193, 194, 195, 196, 197, 198, 199, 200, 201, 202, 203, 204, 205, 206, 207, 208, 209, 210, 211, 212, 213, 214, 215, 216, 217, 218, 219, 220, 221, 222, 223, 224, 225, 226, 227, 228, 229, 230, 231, 232, 233, 234, 235, 236, 237, 238, 239, 240, 241, 242, 243, 244, 245, 246, 247, 248, 249, 250, 251, 252, 253, 254, 264, 265, 266, 267, 268, 269, 270, 271] (by eq_refl) gw_wsX9_textOf
set_option maxRecDepth 20000 in
theorem gX9_text_X9_textOf : GoodIn wsX9_text (va_wsS RX9 159 yX9_textOf wsX9_textOf) := goodIn_app (goodIn_r _ [15, 16, 4] (by eq_refl) (by decide +kernel)) ggX9_text_X9_textOf
set_option maxRecDepth 20000 in
theorem ggX9_order_X9_isForm : GoodIn wsX9_order wsX9_isForm := goodIn_r _ [5] (by eq_refl) gw_wsX9_isForm
set_option maxRecDepth 20000 in
theorem gX9_order_X9_isForm : GoodIn wsX9_order (va_wsS RX9 67 yX9_isForm wsX9_isForm) := goodIn_app (goodIn_r _ [2, 3, 4] (by eq_refl) (by decide +kernel)) ggX9_order_X9_isForm
set_option maxRecDepth 20000 in
theorem ggX9_order_X9_isThrown_ : GoodIn wsX9_order wsX9_isThrown_ := goodIn_r _ [9, 10, 11, 12, 4, 13, 14, 15, 16, 17, 18, 19, 20, 21, 22, 23] (by eq_refl) gw_wsX9_isThrown_
set_option maxRecDepth 20000 in
theorem gX9_order_X9_isThrown_ : GoodIn wsX9_order (wsV RX9 71 RX9 yX9_isThrown_ wsX9_isThrown_) := goodIn_app (goodIn_r _ [6, 7, 8, 4] (by eq_refl) (by decide +kernel)) ggX9_order_X9_isThrown_
set_option maxRecDepth 20000 in
theorem ggX9_divides_X9_isForm : GoodIn wsX9_divides wsX9_isForm := goodIn_r _ [5] (by eq_refl) gw_wsX9_isForm
set_option maxRecDepth 20000 in
theorem gX9_divides_X9_isForm : GoodIn wsX9_divides (va_wsS RX9 67 yX9_isForm wsX9_isForm) := goodIn_app (goodIn_r _ [2, 3, 4] (by eq_refl) (by decide +kernel)) ggX9_divides_X9_isForm
set_option maxRecDepth 20000 in
theorem ggX9_divides_X9_isThrown_ : GoodIn wsX9_divides wsX9_isThrown_ := goodIn_r _ [9, 10, 11, 12, 4, 13, 14, 39, 40, 41, 42, 43, 44, 45, 46, 47] (by eq_refl) gw_wsX9_isThrown_
set_option maxRecDepth 20000 in
theorem gX9_divides_X9_isThrown_ : GoodIn wsX9_divides (wsV RX9 71 RX9 yX9_isThrown_ wsX9_isThrown_) := goodIn_app (goodIn_r _ [6, 7, 8, 4] (by eq_refl) (by decide +kernel)) ggX9_divides_X9_isThrown_
set_option maxRecDepth 20000 in
theorem ggX9_divides_X9_isDivided : GoodIn wsX9_divides wsX9_isDivided := goodIn_r _ [17, 18, 19, 4, 20, 21, 22, 23, 24, 25, 26, 27, 28, 29, 30, 31, 32, 33, 34, 35, 36, 37, 38] (by eq_refl) gw_wsX9_isDivided
set_option maxRecDepth 20000 in
theorem gX9_divides_X9_isDivided : GoodIn wsX9_divides (va_wsS RX9 163 yX9_isDivided wsX9_isDivided) := goodIn_app (goodIn_r _ [15, 16, 4] (by eq_refl) (by decide +kernel)) ggX9_divides_X9_isDivided
set_option maxRecDepth 20000 in
theorem ggX9_check_X9_isForm : GoodIn wsX9_check wsX9_isForm := goodIn_r _ [5] (by eq_refl) gw_wsX9_isForm
set_option maxRecDepth 20000 in
theorem gX9_check_X9_isForm : GoodIn wsX9_check (va_wsS RX9 67 yX9_isForm wsX9_isForm) := goodIn_app (goodIn_r _ [2, 3, 4] (by eq_refl) (by decide +kernel)) ggX9_check_X9_isForm
