theorem bw552 : Cond.constantLong RX0 245 (-9999) ∈ BW := ws3_bw541 _ mm9
theorem bw553 : Cond.constantLong RX0 247 (9999) ∈ BW := ws3_bw541 _ mm10
theorem bw568 : Cond.methodLink RX0 112 yX0_goUnits ∈ BW := ws3_bw541 _ mm11
theorem bw570 : Cond.instanceMethod yX0_goUnits ∈ BW := ws3_bw541 _ mm12
theorem bw571 : Cond.code yX0_goUnits cX0_goUnits 11 (some .int) ∈ BW := ws3_bw541 _ mm13
theorem bw572 : Cond.methodLink RX0 118 yX0_goLine ∈ BW := ws3_bw541 _ mm14
theorem bw574 : Cond.instanceMethod yX0_goLine ∈ BW := ws3_bw541 _ mm15
theorem bw575 : Cond.code yX0_goLine cX0_goLine 10 (some .int) ∈ BW := ws3_bw541 _ mm16
set_option maxRecDepth 10000 in
theorem ws3_bw611 : ∀ w : Cond, w ∈ [Cond.constantLong RX0 116 (-12)] → w ∈ BW := mS3 75 (List.Sublist.cons₂ _ (List.nil_sublist _)) (by decide +kernel)
theorem bw611 : Cond.constantLong RX0 116 (-12) ∈ BW := ws3_bw611 _ mm0
set_option maxRecDepth 10000 in
theorem ws3_bw675 : ∀ w : Cond, w ∈ [Cond.constant RX0 121 (-100000), Cond.constant RX0 122 (100000), Cond.methodLink RX0 123 yX0_monthsOfUnit, Cond.static yX0_monthsOfUnit, Cond.code yX0_monthsOfUnit cX0_monthsOfUnit 1 (some .long), Cond.constantLong RX0 287 (120), Cond.constantLong RX0 289 (1200), Cond.constantLong RX0 291 (12000)] → w ∈ BW := mS3 139 (List.Sublist.cons₂ _ (List.Sublist.cons₂ _ (List.Sublist.cons₂ _ (List.Sublist.cons₂ _ (List.Sublist.cons₂ _ (List.Sublist.cons₂ _ (List.Sublist.cons₂ _ (List.Sublist.cons₂ _ (List.nil_sublist _))))))))) (by decide +kernel)
theorem bw675 : Cond.constant RX0 121 (-100000) ∈ BW := ws3_bw675 _ mm0
theorem bw676 : Cond.constant RX0 122 (100000) ∈ BW := ws3_bw675 _ mm1
theorem bw677 : Cond.methodLink RX0 123 yX0_monthsOfUnit ∈ BW := ws3_bw675 _ mm2
theorem bw678 : Cond.static yX0_monthsOfUnit ∈ BW := ws3_bw675 _ mm3
theorem bw679 : Cond.code yX0_monthsOfUnit cX0_monthsOfUnit 1 (some .long) ∈ BW := ws3_bw675 _ mm4
theorem bw680 : Cond.constantLong RX0 287 (120) ∈ BW := ws3_bw675 _ mm5
theorem bw681 : Cond.constantLong RX0 289 (1200) ∈ BW := ws3_bw675 _ mm6
theorem bw682 : Cond.constantLong RX0 291 (12000) ∈ BW := ws3_bw675 _ mm7
set_option maxRecDepth 10000 in
theorem ws4_bw809 : ∀ w : Cond, w ∈ [Cond.methodLink RX0 305 yJ9_abs_067f4, Cond.static yJ9_abs_067f4, Cond.code yJ9_abs_067f4 cJ9_abs_067f4 2 (some .long)] → w ∈ BW := mS4 33 (List.Sublist.cons₂ _ (List.Sublist.cons₂ _ (List.Sublist.cons₂ _ (List.nil_sublist _)))) (by decide +kernel)
theorem bw809 : Cond.methodLink RX0 305 yJ9_abs_067f4 ∈ BW := ws4_bw809 _ mm0
theorem bw810 : Cond.static yJ9_abs_067f4 ∈ BW := ws4_bw809 _ mm1
theorem bw811 : Cond.code yJ9_abs_067f4 cJ9_abs_067f4 2 (some .long) ∈ BW := ws4_bw809 _ mm2
set_option maxRecDepth 10000 in
theorem ws5_bw1091 : ∀ w : Cond, w ∈ [Cond.constant RX0 293 (1000000), Cond.constantLong RX0 294 (24)] → w ∈ BW := mS5 75 (List.Sublist.cons₂ _ (List.Sublist.cons₂ _ (List.nil_sublist _))) (by decide +kernel)
theorem bw1091 : Cond.constant RX0 293 (1000000) ∈ BW := ws5_bw1091 _ mm0
theorem bw1092 : Cond.constantLong RX0 294 (24) ∈ BW := ws5_bw1091 _ mm1
set_option maxRecDepth 10000 in
theorem ws5_bw1133 : ∀ w : Cond, w ∈ [Cond.constantLong RX0 309 (100000), Cond.methodLink RX0 311 yX0_wholeMonths, Cond.instanceMethod yX0_wholeMonths, Cond.code yX0_wholeMonths cX0_wholeMonths 6 (some .long)] → w ∈ BW := mS5 117 (List.Sublist.cons₂ _ (List.Sublist.cons _ (List.Sublist.cons _ (List.Sublist.cons _ (List.Sublist.cons _ (List.Sublist.cons _ (List.Sublist.cons₂ _ (List.Sublist.cons _ (List.Sublist.cons₂ _ (List.Sublist.cons₂ _ (List.nil_sublist _))))))))))) (by decide +kernel)
theorem bw1133 : Cond.constantLong RX0 309 (100000) ∈ BW := ws5_bw1133 _ mm0
theorem bw1139 : Cond.methodLink RX0 311 yX0_wholeMonths ∈ BW := ws5_bw1133 _ mm1
theorem bw1141 : Cond.instanceMethod yX0_wholeMonths ∈ BW := ws5_bw1133 _ mm2
theorem bw1142 : Cond.code yX0_wholeMonths cX0_wholeMonths 6 (some .long) ∈ BW := ws5_bw1133 _ mm3
