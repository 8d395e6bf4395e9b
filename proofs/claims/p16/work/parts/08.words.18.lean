set_option maxRecDepth 10000 in
theorem ws6_bw1359 : ∀ w : Cond, w ∈ [Cond.constantLong RX2 80 (43200000000000), Cond.constantLong RX2 82 (86400000000000), Cond.constantLong RX2 84 (604800000000000), Cond.constant RX2 178 (-100000000), Cond.constant RX2 179 (100000000), Cond.constantLong RX2 132 (12), Cond.methodLink RX2 180 yX2_onMonths, Cond.instanceMethod yX2_onMonths, Cond.code yX2_onMonths cX2_onMonths 8 (some .int), Cond.methodLink RX2 184 yX2_onLine, Cond.instanceMethod yX2_onLine, Cond.code yX2_onLine cX2_onLine 12 (some .int)] → w ∈ BW := mS6 103 (List.Sublist.cons₂ _ (List.Sublist.cons₂ _ (List.Sublist.cons₂ _ (List.Sublist.cons _ (List.Sublist.cons _ (List.Sublist.cons _ (List.Sublist.cons _ (List.Sublist.cons₂ _ (List.Sublist.cons₂ _ (List.Sublist.cons₂ _ (List.Sublist.cons₂ _ (List.Sublist.cons _ (List.Sublist.cons₂ _ (List.Sublist.cons₂ _ (List.Sublist.cons _ (List.Sublist.cons _ (List.Sublist.cons _ (List.Sublist.cons _ (List.Sublist.cons _ (List.Sublist.cons _ (List.Sublist.cons _ (List.Sublist.cons _ (List.Sublist.cons₂ _ (List.Sublist.cons _ (List.Sublist.cons₂ _ (List.Sublist.cons₂ _ (List.nil_sublist _))))))))))))))))))))))))))) (by decide +kernel)
theorem bw1359 : Cond.constantLong RX2 80 (43200000000000) ∈ BW := ws6_bw1359 _ mm0
theorem bw1360 : Cond.constantLong RX2 82 (86400000000000) ∈ BW := ws6_bw1359 _ mm1
theorem bw1361 : Cond.constantLong RX2 84 (604800000000000) ∈ BW := ws6_bw1359 _ mm2
theorem bw1366 : Cond.constant RX2 178 (-100000000) ∈ BW := ws6_bw1359 _ mm3
theorem bw1367 : Cond.constant RX2 179 (100000000) ∈ BW := ws6_bw1359 _ mm4
theorem bw1368 : Cond.constantLong RX2 132 (12) ∈ BW := ws6_bw1359 _ mm5
theorem bw1369 : Cond.methodLink RX2 180 yX2_onMonths ∈ BW := ws6_bw1359 _ mm6
theorem bw1371 : Cond.instanceMethod yX2_onMonths ∈ BW := ws6_bw1359 _ mm7
theorem bw1372 : Cond.code yX2_onMonths cX2_onMonths 8 (some .int) ∈ BW := ws6_bw1359 _ mm8
theorem bw1381 : Cond.methodLink RX2 184 yX2_onLine ∈ BW := ws6_bw1359 _ mm9
theorem bw1383 : Cond.instanceMethod yX2_onLine ∈ BW := ws6_bw1359 _ mm10
theorem bw1384 : Cond.code yX2_onLine cX2_onLine 12 (some .int) ∈ BW := ws6_bw1359 _ mm11
set_option maxRecDepth 10000 in
theorem ws6_bw1405 : ∀ w : Cond, w ∈ [Cond.constantLong RX2 187 (-12), Cond.constantLong RX2 189 (-7)] → w ∈ BW := mS6 149 (List.Sublist.cons₂ _ (List.Sublist.cons _ (List.Sublist.cons _ (List.Sublist.cons _ (List.Sublist.cons _ (List.Sublist.cons _ (List.Sublist.cons _ (List.Sublist.cons _ (List.Sublist.cons _ (List.Sublist.cons₂ _ (List.nil_sublist _))))))))))) (by decide +kernel)
theorem bw1405 : Cond.constantLong RX2 187 (-12) ∈ BW := ws6_bw1405 _ mm0
theorem bw1414 : Cond.constantLong RX2 189 (-7) ∈ BW := ws6_bw1405 _ mm1
set_option maxRecDepth 10000 in
theorem ws6_bw1443 : ∀ w : Cond, w ∈ [Cond.constant RX2 191 (-100000), Cond.constant RX2 192 (100000), Cond.methodLink RX2 193 yX2_monthsOf, Cond.static yX2_monthsOf, Cond.code yX2_monthsOf cX2_monthsOf 1 (some .int), Cond.methodLink RX2 196 yX2_inYearNow, Cond.instanceMethod yX2_inYearNow, Cond.code yX2_inYearNow cX2_inYearNow 2 (some .int), Cond.methodLink RX2 199 yX2_part, Cond.instanceMethod yX2_part, Cond.code yX2_part cX2_part 6 (some .int)] → w ∈ BW := mS6 187 (List.Sublist.cons₂ _ (List.Sublist.cons₂ _ (List.Sublist.cons₂ _ (List.Sublist.cons₂ _ (List.Sublist.cons₂ _ (List.Sublist.cons _ (List.Sublist.cons _ (List.Sublist.cons _ (List.Sublist.cons _ (List.Sublist.cons _ (List.Sublist.cons _ (List.Sublist.cons _ (List.Sublist.cons _ (List.Sublist.cons _ (List.Sublist.cons _ (List.Sublist.cons _ (List.Sublist.cons _ (List.Sublist.cons _ (List.Sublist.cons _ (List.Sublist.cons _ (List.Sublist.cons _ (List.Sublist.cons₂ _ (List.Sublist.cons _ (List.Sublist.cons₂ _ (List.Sublist.cons₂ _ (List.Sublist.cons _ (List.Sublist.cons _ (List.Sublist.cons _ (List.Sublist.cons _ (List.Sublist.cons _ (List.Sublist.cons _ (List.Sublist.cons _ (List.Sublist.cons _ (List.Sublist.cons₂ _ (List.Sublist.cons _ (List.Sublist.cons₂ _ (List.Sublist.cons₂ _ (List.nil_sublist _)))))))))))))))))))))))))))))))))))))) (by decide +kernel)
theorem bw1443 : Cond.constant RX2 191 (-100000) ∈ BW := ws6_bw1443 _ mm0
theorem bw1444 : Cond.constant RX2 192 (100000) ∈ BW := ws6_bw1443 _ mm1
theorem bw1445 : Cond.methodLink RX2 193 yX2_monthsOf ∈ BW := ws6_bw1443 _ mm2
theorem bw1446 : Cond.static yX2_monthsOf ∈ BW := ws6_bw1443 _ mm3
theorem bw1447 : Cond.code yX2_monthsOf cX2_monthsOf 1 (some .int) ∈ BW := ws6_bw1443 _ mm4
theorem bw1464 : Cond.methodLink RX2 196 yX2_inYearNow ∈ BW := ws6_bw1443 _ mm5
theorem bw1466 : Cond.instanceMethod yX2_inYearNow ∈ BW := ws6_bw1443 _ mm6
theorem bw1467 : Cond.code yX2_inYearNow cX2_inYearNow 2 (some .int) ∈ BW := ws6_bw1443 _ mm7
theorem bw1476 : Cond.methodLink RX2 199 yX2_part ∈ BW := ws6_bw1443 _ mm8
theorem bw1478 : Cond.instanceMethod yX2_part ∈ BW := ws6_bw1443 _ mm9
theorem bw1479 : Cond.code yX2_part cX2_part 6 (some .int) ∈ BW := ws6_bw1443 _ mm10
