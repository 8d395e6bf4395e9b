theorem bw432 : Cond.methodLink RX0 225 yX0_yearOf ∈ BW := ws2_bw378 _ mm21
theorem bw433 : Cond.static yX0_yearOf ∈ BW := ws2_bw378 _ mm22
theorem bw434 : Cond.code yX0_yearOf cX0_yearOf 3 (some .int) ∈ BW := ws2_bw378 _ mm23
set_option maxRecDepth 10000 in
theorem ws2_bw435 : ∀ w : Cond, w ∈ [Cond.constantLong RX0 271 (400), Cond.methodLink RX0 228 yX0_monthOf, Cond.static yX0_monthOf, Cond.code yX0_monthOf cX0_monthOf 3 (some .int), Cond.methodLink RX0 65 yX0_becomeAs, Cond.instanceMethod yX0_becomeAs, Cond.code yX0_becomeAs cX0_becomeAs 5 (some .int)] → w ∈ BW := mS2 139 (List.Sublist.cons₂ _ (List.Sublist.cons₂ _ (List.Sublist.cons₂ _ (List.Sublist.cons₂ _ (List.Sublist.cons _ (List.Sublist.cons _ (List.Sublist.cons _ (List.Sublist.cons _ (List.Sublist.cons _ (List.Sublist.cons _ (List.Sublist.cons _ (List.Sublist.cons₂ _ (List.Sublist.cons _ (List.Sublist.cons₂ _ (List.Sublist.cons₂ _ (List.nil_sublist _)))))))))))))))) (by decide +kernel)
theorem bw435 : Cond.constantLong RX0 271 (400) ∈ BW := ws2_bw435 _ mm0
theorem bw436 : Cond.methodLink RX0 228 yX0_monthOf ∈ BW := ws2_bw435 _ mm1
theorem bw437 : Cond.static yX0_monthOf ∈ BW := ws2_bw435 _ mm2
theorem bw438 : Cond.code yX0_monthOf cX0_monthOf 3 (some .int) ∈ BW := ws2_bw435 _ mm3
theorem bw446 : Cond.methodLink RX0 65 yX0_becomeAs ∈ BW := ws2_bw435 _ mm4
theorem bw448 : Cond.instanceMethod yX0_becomeAs ∈ BW := ws2_bw435 _ mm5
theorem bw449 : Cond.code yX0_becomeAs cX0_becomeAs 5 (some .int) ∈ BW := ws2_bw435 _ mm6
set_option maxRecDepth 10000 in
theorem ws2_bw471 : ∀ w : Cond, w ∈ [Cond.methodLink RX0 69 yX0_becomeMonth, Cond.instanceMethod yX0_becomeMonth, Cond.code yX0_becomeMonth cX0_becomeMonth 5 (some .int)] → w ∈ BW := mS2 175 (List.Sublist.cons₂ _ (List.Sublist.cons _ (List.Sublist.cons₂ _ (List.Sublist.cons₂ _ (List.nil_sublist _))))) (by decide +kernel)
theorem bw471 : Cond.methodLink RX0 69 yX0_becomeMonth ∈ BW := ws2_bw471 _ mm0
theorem bw473 : Cond.instanceMethod yX0_becomeMonth ∈ BW := ws2_bw471 _ mm1
theorem bw474 : Cond.code yX0_becomeMonth cX0_becomeMonth 5 (some .int) ∈ BW := ws2_bw471 _ mm2
set_option maxRecDepth 10000 in
theorem ws2_bw496 : ∀ w : Cond, w ∈ [Cond.methodLink RX0 73 yX0_yearLength, Cond.static yX0_yearLength, Cond.code yX0_yearLength cX0_yearLength 1 (some .int)] → w ∈ BW := mS2 200 (List.Sublist.cons₂ _ (List.Sublist.cons₂ _ (List.Sublist.cons₂ _ (List.nil_sublist _)))) (by decide +kernel)
theorem bw496 : Cond.methodLink RX0 73 yX0_yearLength ∈ BW := ws2_bw496 _ mm0
theorem bw497 : Cond.static yX0_yearLength ∈ BW := ws2_bw496 _ mm1
theorem bw498 : Cond.code yX0_yearLength cX0_yearLength 1 (some .int) ∈ BW := ws2_bw496 _ mm2
set_option maxRecDepth 10000 in
theorem ws3_bw541 : ∀ w : Cond, w ∈ [Cond.constant RX0 104 (-100000000), Cond.constant RX0 105 (100000000), Cond.constantLong RX0 106 (12), Cond.methodLink RX0 108 yX0_goMonths, Cond.instanceMethod yX0_goMonths, Cond.code yX0_goMonths cX0_goMonths 8 (some .int), Cond.methodLink RX0 239 yX0_monthCount, Cond.instanceMethod yX0_monthCount, Cond.code yX0_monthCount cX0_monthCount 2 (some .long), Cond.constantLong RX0 245 (-9999), Cond.constantLong RX0 247 (9999), Cond.methodLink RX0 112 yX0_goUnits, Cond.instanceMethod yX0_goUnits, Cond.code yX0_goUnits cX0_goUnits 11 (some .int), Cond.methodLink RX0 118 yX0_goLine, Cond.instanceMethod yX0_goLine, Cond.code yX0_goLine cX0_goLine 10 (some .int)] → w ∈ BW := mS3 5 (List.Sublist.cons₂ _ (List.Sublist.cons₂ _ (List.Sublist.cons₂ _ (List.Sublist.cons₂ _ (List.Sublist.cons _ (List.Sublist.cons₂ _ (List.Sublist.cons₂ _ (List.Sublist.cons₂ _ (List.Sublist.cons _ (List.Sublist.cons₂ _ (List.Sublist.cons₂ _ (List.Sublist.cons₂ _ (List.Sublist.cons₂ _ (List.Sublist.cons _ (List.Sublist.cons _ (List.Sublist.cons _ (List.Sublist.cons _ (List.Sublist.cons _ (List.Sublist.cons _ (List.Sublist.cons _ (List.Sublist.cons _ (List.Sublist.cons _ (List.Sublist.cons _ (List.Sublist.cons _ (List.Sublist.cons _ (List.Sublist.cons _ (List.Sublist.cons _ (List.Sublist.cons₂ _ (List.Sublist.cons _ (List.Sublist.cons₂ _ (List.Sublist.cons₂ _ (List.Sublist.cons₂ _ (List.Sublist.cons _ (List.Sublist.cons₂ _ (List.Sublist.cons₂ _ (List.nil_sublist _)))))))))))))))))))))))))))))))))))) (by decide +kernel)
theorem bw541 : Cond.constant RX0 104 (-100000000) ∈ BW := ws3_bw541 _ mm0
theorem bw542 : Cond.constant RX0 105 (100000000) ∈ BW := ws3_bw541 _ mm1
theorem bw543 : Cond.constantLong RX0 106 (12) ∈ BW := ws3_bw541 _ mm2
theorem bw544 : Cond.methodLink RX0 108 yX0_goMonths ∈ BW := ws3_bw541 _ mm3
theorem bw546 : Cond.instanceMethod yX0_goMonths ∈ BW := ws3_bw541 _ mm4
theorem bw547 : Cond.code yX0_goMonths cX0_goMonths 8 (some .int) ∈ BW := ws3_bw541 _ mm5
theorem bw548 : Cond.methodLink RX0 239 yX0_monthCount ∈ BW := ws3_bw541 _ mm6
theorem bw550 : Cond.instanceMethod yX0_monthCount ∈ BW := ws3_bw541 _ mm7
theorem bw551 : Cond.code yX0_monthCount cX0_monthCount 2 (some .long) ∈ BW := ws3_bw541 _ mm8
