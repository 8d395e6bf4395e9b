theorem mS5 {l : List Cond} (a : Nat) (hs : List.Sublist l (List.drop a tables_1_5)) (g : l.all goodWord = true) : ∀ w : Cond, w ∈ l → w ∈ BW := fun w h9 => by
  have h := (hs.trans (List.drop_sublist a tables_1_5)).subset h9
  exact lBW (List.mem_append_right _ (List.mem_append_right _ (List.mem_append_right _ (List.mem_append_right _ (List.mem_append_right _ (List.mem_append_left _ h)))))) (List.all_eq_true.mp g w h9)
theorem mS6 {l : List Cond} (a : Nat) (hs : List.Sublist l (List.drop a tables_1_6)) (g : l.all goodWord = true) : ∀ w : Cond, w ∈ l → w ∈ BW := fun w h9 => by
  have h := (hs.trans (List.drop_sublist a tables_1_6)).subset h9
  exact lBW (List.mem_append_right _ (List.mem_append_right _ (List.mem_append_right _ (List.mem_append_right _ (List.mem_append_right _ (List.mem_append_right _ (List.mem_append_left _ h))))))) (List.all_eq_true.mp g w h9)
theorem mS7 {l : List Cond} (a : Nat) (hs : List.Sublist l (List.drop a tables_1_7)) (g : l.all goodWord = true) : ∀ w : Cond, w ∈ l → w ∈ BW := fun w h9 => by
  have h := (hs.trans (List.drop_sublist a tables_1_7)).subset h9
  exact lBW (List.mem_append_right _ (List.mem_append_right _ (List.mem_append_right _ (List.mem_append_right _ (List.mem_append_right _ (List.mem_append_right _ (List.mem_append_right _ h))))))) (List.all_eq_true.mp g w h9)
theorem mJ1 {w : Cond} (i : Nat) (h9 : tables_1_1[i]? = some w) : w ∈ lw_tbl := by
  have h := List.mem_of_getElem? h9
  exact List.mem_append_right _ (List.mem_append_left _ h)
theorem mK1 {l : List Cond} (is : List Nat) (h : l = is.filterMap (fun i => tables_1_1[i]?)) : ∀ w ∈ l, w ∈ lw_tbl := by
  intro w hw
  rw [h] at hw
  obtain ⟨i, -, hi⟩ := List.mem_filterMap.mp hw
  exact mJ1 i hi
theorem mJ2 {w : Cond} (i : Nat) (h9 : tables_1_2[i]? = some w) : w ∈ lw_tbl := by
  have h := List.mem_of_getElem? h9
  exact List.mem_append_right _ (List.mem_append_right _ (List.mem_append_left _ h))
theorem mK2 {l : List Cond} (is : List Nat) (h : l = is.filterMap (fun i => tables_1_2[i]?)) : ∀ w ∈ l, w ∈ lw_tbl := by
  intro w hw
  rw [h] at hw
  obtain ⟨i, -, hi⟩ := List.mem_filterMap.mp hw
  exact mJ2 i hi
theorem mJ3 {w : Cond} (i : Nat) (h9 : tables_1_3[i]? = some w) : w ∈ lw_tbl := by
  have h := List.mem_of_getElem? h9
  exact List.mem_append_right _ (List.mem_append_right _ (List.mem_append_right _ (List.mem_append_left _ h)))
theorem mK3 {l : List Cond} (is : List Nat) (h : l = is.filterMap (fun i => tables_1_3[i]?)) : ∀ w ∈ l, w ∈ lw_tbl := by
  intro w hw
  rw [h] at hw
  obtain ⟨i, -, hi⟩ := List.mem_filterMap.mp hw
  exact mJ3 i hi
theorem mJ4 {w : Cond} (i : Nat) (h9 : tables_1_4[i]? = some w) : w ∈ lw_tbl := by
  have h := List.mem_of_getElem? h9
  exact List.mem_append_right _ (List.mem_append_right _ (List.mem_append_right _ (List.mem_append_right _ (List.mem_append_left _ h))))
theorem mK4 {l : List Cond} (is : List Nat) (h : l = is.filterMap (fun i => tables_1_4[i]?)) : ∀ w ∈ l, w ∈ lw_tbl := by
  intro w hw
  rw [h] at hw
  obtain ⟨i, -, hi⟩ := List.mem_filterMap.mp hw
  exact mJ4 i hi
theorem mJ5 {w : Cond} (i : Nat) (h9 : tables_1_5[i]? = some w) : w ∈ lw_tbl := by
  have h := List.mem_of_getElem? h9
  exact List.mem_append_right _ (List.mem_append_right _ (List.mem_append_right _ (List.mem_append_right _ (List.mem_append_right _ (List.mem_append_left _ h)))))
theorem mK5 {l : List Cond} (is : List Nat) (h : l = is.filterMap (fun i => tables_1_5[i]?)) : ∀ w ∈ l, w ∈ lw_tbl := by
  intro w hw
  rw [h] at hw
  obtain ⟨i, -, hi⟩ := List.mem_filterMap.mp hw
  exact mJ5 i hi
theorem mJ6 {w : Cond} (i : Nat) (h9 : tables_1_6[i]? = some w) : w ∈ lw_tbl := by
  have h := List.mem_of_getElem? h9
  exact List.mem_append_right _ (List.mem_append_right _ (List.mem_append_right _ (List.mem_append_right _ (List.mem_append_right _ (List.mem_append_right _ (List.mem_append_left _ h))))))
theorem mK6 {l : List Cond} (is : List Nat) (h : l = is.filterMap (fun i => tables_1_6[i]?)) : ∀ w ∈ l, w ∈ lw_tbl := by
  intro w hw
  rw [h] at hw
  obtain ⟨i, -, hi⟩ := List.mem_filterMap.mp hw
  exact mJ6 i hi
theorem mJ7 {w : Cond} (i : Nat) (h9 : tables_1_7[i]? = some w) : w ∈ lw_tbl := by
  have h := List.mem_of_getElem? h9
  exact List.mem_append_right _ (List.mem_append_right _ (List.mem_append_right _ (List.mem_append_right _ (List.mem_append_right _ (List.mem_append_right _ (List.mem_append_right _ h))))))
theorem mK7 {l : List Cond} (is : List Nat) (h : l = is.filterMap (fun i => tables_1_7[i]?)) : ∀ w ∈ l, w ∈ lw_tbl := by
  intro w hw
  rw [h] at hw
  obtain ⟨i, -, hi⟩ := List.mem_filterMap.mp hw
  exact mJ7 i hi
theorem bw0 : Cond.selects RX0 yX0_isSoundAlone yX0_isSoundAlone ∈ BW := mBW 0 rfl (by decide +kernel)
theorem bw1 : Cond.selects RX0 yX0_isItsParts yX0_isItsParts ∈ BW := mBW 1 rfl (by decide +kernel)
theorem bw2 : Cond.selects RX0 yX0_isItsDateAndTime yX0_isItsDateAndTime ∈ BW := mBW 2 rfl (by decide +kernel)
theorem bw3 : Cond.selects RX0 yX0_yearDay yX0_yearDay ∈ BW := mBW 3 rfl (by decide +kernel)
