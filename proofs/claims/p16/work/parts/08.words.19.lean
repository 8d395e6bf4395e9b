set_option maxRecDepth 10000 in
theorem ws7_bw1500 : ∀ w : Cond, w ∈ [Cond.constantLong RX2 202 (86400)] → w ∈ BW := mS7 4 (List.Sublist.cons₂ _ (List.nil_sublist _)) (by decide +kernel)
theorem bw1500 : Cond.constantLong RX2 202 (86400) ∈ BW := ws7_bw1500 _ mm0
set_option maxRecDepth 10000 in
theorem ws7_bw1561 : ∀ w : Cond, w ∈ [Cond.methodLink RX2 227 yX2_order, Cond.instanceMethod yX2_order, Cond.code yX2_order cX2_order 7 (some .int)] → w ∈ BW := mS7 65 (List.Sublist.cons₂ _ (List.Sublist.cons _ (List.Sublist.cons₂ _ (List.Sublist.cons₂ _ (List.nil_sublist _))))) (by decide +kernel)
theorem bw1561 : Cond.methodLink RX2 227 yX2_order ∈ BW := ws7_bw1561 _ mm0
theorem bw1563 : Cond.instanceMethod yX2_order ∈ BW := ws7_bw1561 _ mm1
theorem bw1564 : Cond.code yX2_order cX2_order 7 (some .int) ∈ BW := ws7_bw1561 _ mm2
set_option maxRecDepth 10000 in
theorem ws7_bw1588 : ∀ w : Cond, w ∈ [Cond.methodLink RX2 240 yX2_monthsOn, Cond.instanceMethod yX2_monthsOn, Cond.code yX2_monthsOn cX2_monthsOn 6 (some .long), Cond.methodLink RX2 259 yX2_houseNow, Cond.instanceMethod yX2_houseNow, Cond.code yX2_houseNow cX2_houseNow 2 (some .int), Cond.methodLink RX2 250 yX2_likeOnes, Cond.instanceMethod yX2_likeOnes, Cond.code yX2_likeOnes cX2_likeOnes 5 (some .int), Cond.methodLink RX2 253 yX2_outer, Cond.instanceMethod yX2_outer, Cond.code yX2_outer cX2_outer 4 (some .int)] → w ∈ BW := mS7 92 (List.Sublist.cons₂ _ (List.Sublist.cons _ (List.Sublist.cons₂ _ (List.Sublist.cons₂ _ (List.Sublist.cons _ (List.Sublist.cons _ (List.Sublist.cons _ (List.Sublist.cons _ (List.Sublist.cons _ (List.Sublist.cons _ (List.Sublist.cons _ (List.Sublist.cons _ (List.Sublist.cons _ (List.Sublist.cons _ (List.Sublist.cons _ (List.Sublist.cons _ (List.Sublist.cons₂ _ (List.Sublist.cons _ (List.Sublist.cons₂ _ (List.Sublist.cons₂ _ (List.Sublist.cons₂ _ (List.Sublist.cons _ (List.Sublist.cons₂ _ (List.Sublist.cons₂ _ (List.Sublist.cons₂ _ (List.Sublist.cons _ (List.Sublist.cons₂ _ (List.Sublist.cons₂ _ (List.nil_sublist _))))))))))))))))))))))))))))) (by decide +kernel)
theorem bw1588 : Cond.methodLink RX2 240 yX2_monthsOn ∈ BW := ws7_bw1588 _ mm0
theorem bw1590 : Cond.instanceMethod yX2_monthsOn ∈ BW := ws7_bw1588 _ mm1
theorem bw1591 : Cond.code yX2_monthsOn cX2_monthsOn 6 (some .long) ∈ BW := ws7_bw1588 _ mm2
theorem bw1604 : Cond.methodLink RX2 259 yX2_houseNow ∈ BW := ws7_bw1588 _ mm3
theorem bw1606 : Cond.instanceMethod yX2_houseNow ∈ BW := ws7_bw1588 _ mm4
theorem bw1607 : Cond.code yX2_houseNow cX2_houseNow 2 (some .int) ∈ BW := ws7_bw1588 _ mm5
theorem bw1608 : Cond.methodLink RX2 250 yX2_likeOnes ∈ BW := ws7_bw1588 _ mm6
theorem bw1610 : Cond.instanceMethod yX2_likeOnes ∈ BW := ws7_bw1588 _ mm7
theorem bw1611 : Cond.code yX2_likeOnes cX2_likeOnes 5 (some .int) ∈ BW := ws7_bw1588 _ mm8
theorem bw1612 : Cond.methodLink RX2 253 yX2_outer ∈ BW := ws7_bw1588 _ mm9
theorem bw1614 : Cond.instanceMethod yX2_outer ∈ BW := ws7_bw1588 _ mm10
theorem bw1615 : Cond.code yX2_outer cX2_outer 4 (some .int) ∈ BW := ws7_bw1588 _ mm11
theorem inB_X0 : ∀ w ∈ u_ws RX0 TX0 12, w ∈ BW := by
  have h : u_ws RX0 TX0 12 = [.laysFinal "Daytimepair" "Daytimepair" "years" "[I", .laysFinal "Daytimepair" "Daytimepair" "months" "[I", .laysFinal "Daytimepair" "Daytimepair" "monthDays" "[I", .laysFinal "Daytimepair" "Daytimepair" "days" "[J", .laysFinal "Daytimepair" "Daytimepair" "nanos" "[J", .lays "Daytimepair" "Daytimepair" "handHour" "I", .lays "Daytimepair" "Daytimepair" "handMinute" "I", .lays "Daytimepair" "Daytimepair" "handSecond" "I", .lays "Daytimepair" "Daytimepair" "handNano" "I", .lays "Daytimepair" "Daytimepair" "changes" "I", .lays "Daytimepair" "Daytimepair" "refusals" "I", .lays "Daytimepair" "Daytimepair" "knocks" "I"] := rfl
  rw [h]
  exact List.forall_mem_cons.mpr ⟨bw106, List.forall_mem_cons.mpr ⟨bw108, List.forall_mem_cons.mpr ⟨bw110, List.forall_mem_cons.mpr ⟨bw112, List.forall_mem_cons.mpr ⟨bw114, List.forall_mem_cons.mpr ⟨bw116, List.forall_mem_cons.mpr ⟨bw118, List.forall_mem_cons.mpr ⟨bw120, List.forall_mem_cons.mpr ⟨bw122, List.forall_mem_cons.mpr ⟨bw124, List.forall_mem_cons.mpr ⟨bw126, List.forall_mem_cons.mpr ⟨bw128, fun _ h => absurd h List.not_mem_nil⟩⟩⟩⟩⟩⟩⟩⟩⟩⟩⟩⟩
