theorem mm0 {a0 : Cond} {l : List Cond} : a0 ∈ a0 :: l := List.Mem.head _
theorem mm1 {a0 a1 : Cond} {l : List Cond} : a1 ∈ a0 :: a1 :: l := List.Mem.tail _ mm0
theorem mm2 {a0 a1 a2 : Cond} {l : List Cond} : a2 ∈ a0 :: a1 :: a2 :: l := List.Mem.tail _ mm1
theorem mm3 {a0 a1 a2 a3 : Cond} {l : List Cond} : a3 ∈ a0 :: a1 :: a2 :: a3 :: l := List.Mem.tail _ mm2
theorem mm4 {a0 a1 a2 a3 a4 : Cond} {l : List Cond} : a4 ∈ a0 :: a1 :: a2 :: a3 :: a4 :: l := List.Mem.tail _ mm3
theorem mm5 {a0 a1 a2 a3 a4 a5 : Cond} {l : List Cond} : a5 ∈ a0 :: a1 :: a2 :: a3 :: a4 :: a5 :: l := List.Mem.tail _ mm4
theorem mm6 {a0 a1 a2 a3 a4 a5 a6 : Cond} {l : List Cond} : a6 ∈ a0 :: a1 :: a2 :: a3 :: a4 :: a5 :: a6 :: l := List.Mem.tail _ mm5
theorem mm7 {a0 a1 a2 a3 a4 a5 a6 a7 : Cond} {l : List Cond} : a7 ∈ a0 :: a1 :: a2 :: a3 :: a4 :: a5 :: a6 :: a7 :: l := List.Mem.tail _ mm6
theorem mm8 {a0 a1 a2 a3 a4 a5 a6 a7 a8 : Cond} {l : List Cond} : a8 ∈ a0 :: a1 :: a2 :: a3 :: a4 :: a5 :: a6 :: a7 :: a8 :: l := List.Mem.tail _ mm7
theorem mm9 {a0 a1 a2 a3 a4 a5 a6 a7 a8 a9 : Cond} {l : List Cond} : a9 ∈ a0 :: a1 :: a2 :: a3 :: a4 :: a5 :: a6 :: a7 :: a8 :: a9 :: l := List.Mem.tail _ mm8
theorem mm10 {a0 a1 a2 a3 a4 a5 a6 a7 a8 a9 a10 : Cond} {l : List Cond} : a10 ∈ a0 :: a1 :: a2 :: a3 :: a4 :: a5 :: a6 :: a7 :: a8 :: a9 :: a10 :: l := List.Mem.tail _ mm9
theorem mm11 {a0 a1 a2 a3 a4 a5 a6 a7 a8 a9 a10 a11 : Cond} {l : List Cond} : a11 ∈ a0 :: a1 :: a2 :: a3 :: a4 :: a5 :: a6 :: a7 :: a8 :: a9 :: a10 :: a11 :: l := List.Mem.tail _ mm10
theorem mm12 {a0 a1 a2 a3 a4 a5 a6 a7 a8 a9 a10 a11 a12 : Cond} {l : List Cond} : a12 ∈ a0 :: a1 :: a2 :: a3 :: a4 :: a5 :: a6 :: a7 :: a8 :: a9 :: a10 :: a11 :: a12 :: l := List.Mem.tail _ mm11
theorem mm13 {a0 a1 a2 a3 a4 a5 a6 a7 a8 a9 a10 a11 a12 a13 : Cond} {l : List Cond} : a13 ∈ a0 :: a1 :: a2 :: a3 :: a4 :: a5 :: a6 :: a7 :: a8 :: a9 :: a10 :: a11 :: a12 :: a13 :: l := List.Mem.tail _ mm12
theorem mm14 {a0 a1 a2 a3 a4 a5 a6 a7 a8 a9 a10 a11 a12 a13 a14 : Cond} {l : List Cond} : a14 ∈ a0 :: a1 :: a2 :: a3 :: a4 :: a5 :: a6 :: a7 :: a8 :: a9 :: a10 :: a11 :: a12 :: a13 :: a14 :: l := List.Mem.tail _ mm13
theorem mm15 {a0 a1 a2 a3 a4 a5 a6 a7 a8 a9 a10 a11 a12 a13 a14 a15 : Cond} {l : List Cond} : a15 ∈ a0 :: a1 :: a2 :: a3 :: a4 :: a5 :: a6 :: a7 :: a8 :: a9 :: a10 :: a11 :: a12 :: a13 :: a14 :: a15 :: l := List.Mem.tail _ mm14
theorem mm16 {a0 a1 a2 a3 a4 a5 a6 a7 a8 a9 a10 a11 a12 a13 a14 a15 a16 : Cond} {l : List Cond} : a16 ∈ a0 :: a1 :: a2 :: a3 :: a4 :: a5 :: a6 :: a7 :: a8 :: a9 :: a10 :: a11 :: a12 :: a13 :: a14 :: a15 :: a16 :: l := List.Mem.tail _ mm15
theorem mm17 {a0 a1 a2 a3 a4 a5 a6 a7 a8 a9 a10 a11 a12 a13 a14 a15 a16 a17 : Cond} {l : List Cond} : a17 ∈ a0 :: a1 :: a2 :: a3 :: a4 :: a5 :: a6 :: a7 :: a8 :: a9 :: a10 :: a11 :: a12 :: a13 :: a14 :: a15 :: a16 :: a17 :: l := List.Mem.tail _ mm16
theorem mm18 {a0 a1 a2 a3 a4 a5 a6 a7 a8 a9 a10 a11 a12 a13 a14 a15 a16 a17 a18 : Cond} {l : List Cond} : a18 ∈ a0 :: a1 :: a2 :: a3 :: a4 :: a5 :: a6 :: a7 :: a8 :: a9 :: a10 :: a11 :: a12 :: a13 :: a14 :: a15 :: a16 :: a17 :: a18 :: l := List.Mem.tail _ mm17
theorem mm19 {a0 a1 a2 a3 a4 a5 a6 a7 a8 a9 a10 a11 a12 a13 a14 a15 a16 a17 a18 a19 : Cond} {l : List Cond} : a19 ∈ a0 :: a1 :: a2 :: a3 :: a4 :: a5 :: a6 :: a7 :: a8 :: a9 :: a10 :: a11 :: a12 :: a13 :: a14 :: a15 :: a16 :: a17 :: a18 :: a19 :: l := List.Mem.tail _ mm18
theorem mm20 {a0 a1 a2 a3 a4 a5 a6 a7 a8 a9 a10 a11 a12 a13 a14 a15 a16 a17 a18 a19 a20 : Cond} {l : List Cond} : a20 ∈ a0 :: a1 :: a2 :: a3 :: a4 :: a5 :: a6 :: a7 :: a8 :: a9 :: a10 :: a11 :: a12 :: a13 :: a14 :: a15 :: a16 :: a17 :: a18 :: a19 :: a20 :: l := List.Mem.tail _ mm19
theorem mm21 {a0 a1 a2 a3 a4 a5 a6 a7 a8 a9 a10 a11 a12 a13 a14 a15 a16 a17 a18 a19 a20 a21 : Cond} {l : List Cond} : a21 ∈ a0 :: a1 :: a2 :: a3 :: a4 :: a5 :: a6 :: a7 :: a8 :: a9 :: a10 :: a11 :: a12 :: a13 :: a14 :: a15 :: a16 :: a17 :: a18 :: a19 :: a20 :: a21 :: l := List.Mem.tail _ mm20
theorem mm22 {a0 a1 a2 a3 a4 a5 a6 a7 a8 a9 a10 a11 a12 a13 a14 a15 a16 a17 a18 a19 a20 a21 a22 : Cond} {l : List Cond} : a22 ∈ a0 :: a1 :: a2 :: a3 :: a4 :: a5 :: a6 :: a7 :: a8 :: a9 :: a10 :: a11 :: a12 :: a13 :: a14 :: a15 :: a16 :: a17 :: a18 :: a19 :: a20 :: a21 :: a22 :: l := List.Mem.tail _ mm21
theorem mm23 {a0 a1 a2 a3 a4 a5 a6 a7 a8 a9 a10 a11 a12 a13 a14 a15 a16 a17 a18 a19 a20 a21 a22 a23 : Cond} {l : List Cond} : a23 ∈ a0 :: a1 :: a2 :: a3 :: a4 :: a5 :: a6 :: a7 :: a8 :: a9 :: a10 :: a11 :: a12 :: a13 :: a14 :: a15 :: a16 :: a17 :: a18 :: a19 :: a20 :: a21 :: a22 :: a23 :: l := List.Mem.tail _ mm22
theorem mT1 {l : List Cond} (a : Nat) (hs : List.Sublist l (List.drop a tables_1_1)) : ∀ w : Cond, w ∈ l → w ∈ tables_1 := fun w h9 => by
  have h := (hs.trans (List.drop_sublist a tables_1_1)).subset h9
  exact (List.mem_append_left _ h)
theorem mT2 {l : List Cond} (a : Nat) (hs : List.Sublist l (List.drop a tables_1_2)) : ∀ w : Cond, w ∈ l → w ∈ tables_1 := fun w h9 => by
  have h := (hs.trans (List.drop_sublist a tables_1_2)).subset h9
  exact (List.mem_append_right _ (List.mem_append_left _ h))
theorem mT3 {l : List Cond} (a : Nat) (hs : List.Sublist l (List.drop a tables_1_3)) : ∀ w : Cond, w ∈ l → w ∈ tables_1 := fun w h9 => by
  have h := (hs.trans (List.drop_sublist a tables_1_3)).subset h9
  exact (List.mem_append_right _ (List.mem_append_right _ (List.mem_append_left _ h)))
theorem mT4 {l : List Cond} (a : Nat) (hs : List.Sublist l (List.drop a tables_1_4)) : ∀ w : Cond, w ∈ l → w ∈ tables_1 := fun w h9 => by
  have h := (hs.trans (List.drop_sublist a tables_1_4)).subset h9
  exact (List.mem_append_right _ (List.mem_append_right _ (List.mem_append_right _ (List.mem_append_left _ h))))
theorem mT5 {l : List Cond} (a : Nat) (hs : List.Sublist l (List.drop a tables_1_5)) : ∀ w : Cond, w ∈ l → w ∈ tables_1 := fun w h9 => by
  have h := (hs.trans (List.drop_sublist a tables_1_5)).subset h9
  exact (List.mem_append_right _ (List.mem_append_right _ (List.mem_append_right _ (List.mem_append_right _ (List.mem_append_left _ h)))))
theorem mT6 {l : List Cond} (a : Nat) (hs : List.Sublist l (List.drop a tables_1_6)) : ∀ w : Cond, w ∈ l → w ∈ tables_1 := fun w h9 => by
  have h := (hs.trans (List.drop_sublist a tables_1_6)).subset h9
  exact (List.mem_append_right _ (List.mem_append_right _ (List.mem_append_right _ (List.mem_append_right _ (List.mem_append_right _ (List.mem_append_left _ h))))))
theorem mT7 {l : List Cond} (a : Nat) (hs : List.Sublist l (List.drop a tables_1_7)) : ∀ w : Cond, w ∈ l → w ∈ tables_1 := fun w h9 => by
  have h := (hs.trans (List.drop_sublist a tables_1_7)).subset h9
  exact (List.mem_append_right _ (List.mem_append_right _ (List.mem_append_right _ (List.mem_append_right _ (List.mem_append_right _ (List.mem_append_right _ h))))))
set_option maxRecDepth 10000 in
theorem tgs_23 : ∀ w : Cond, w ∈ [(Jvm.Cond.instantiable "Daytimepair" (12 : Nat))] → w ∈ tables_1 := mT1 23 (List.Sublist.cons₂ _ (List.nil_sublist _))
theorem tg23 : (Jvm.Cond.instantiable "Daytimepair" (12 : Nat)) ∈ tables_1 := tgs_23 _ mm0
set_option maxRecDepth 10000 in
theorem tgs_86 : ∀ w : Cond, w ∈ [(Jvm.Cond.privateMethod ⟨"Daytimepair", "isSoundAlone", "(I)Z"⟩), (Jvm.Cond.instanceMethod ⟨"Daytimepair", "isSoundAlone", "(I)Z"⟩), (Jvm.Cond.privateMethod ⟨"Daytimepair", "isItsParts", "(I)Z"⟩), (Jvm.Cond.instanceMethod ⟨"Daytimepair", "isItsParts", "(I)Z"⟩)] → w ∈ tables_1 := mT1 86 (List.Sublist.cons₂ _ (List.Sublist.cons₂ _ (List.Sublist.cons _ (List.Sublist.cons _ (List.Sublist.cons₂ _ (List.Sublist.cons₂ _ (List.nil_sublist _)))))))
theorem tg86 : (Jvm.Cond.privateMethod ⟨"Daytimepair", "isSoundAlone", "(I)Z"⟩) ∈ tables_1 := tgs_86 _ mm0
theorem tg87 : (Jvm.Cond.instanceMethod ⟨"Daytimepair", "isSoundAlone", "(I)Z"⟩) ∈ tables_1 := tgs_86 _ mm1
theorem tg90 : (Jvm.Cond.privateMethod ⟨"Daytimepair", "isItsParts", "(I)Z"⟩) ∈ tables_1 := tgs_86 _ mm2
theorem tg91 : (Jvm.Cond.instanceMethod ⟨"Daytimepair", "isItsParts", "(I)Z"⟩) ∈ tables_1 := tgs_86 _ mm3
set_option maxRecDepth 10000 in
theorem tgs_123 : ∀ w : Cond, w ∈ [(Jvm.Cond.privateMethod ⟨"Daytimepair", "isItsDateAndTime", "(I)Z"⟩), (Jvm.Cond.instanceMethod ⟨"Daytimepair", "isItsDateAndTime", "(I)Z"⟩), (Jvm.Cond.privateMethod ⟨"Daytimepair", "yearDay", "(I)I"⟩), (Jvm.Cond.instanceMethod ⟨"Daytimepair", "yearDay", "(I)I"⟩), (Jvm.Cond.privateMethod ⟨"Daytimepair", "isBackFromNano", "(I)Z"⟩), (Jvm.Cond.instanceMethod ⟨"Daytimepair", "isBackFromNano", "(I)Z"⟩), (Jvm.Cond.privateMethod ⟨"Daytimepair", "isLineLess", "(IJJJ)Z"⟩), (Jvm.Cond.instanceMethod ⟨"Daytimepair", "isLineLess", "(IJJJ)Z"⟩), (Jvm.Cond.privateMethod ⟨"Daytimepair", "isBackFromDay", "(I)Z"⟩), (Jvm.Cond.instanceMethod ⟨"Daytimepair", "isBackFromDay", "(I)Z"⟩), (Jvm.Cond.privateMethod ⟨"Daytimepair", "isBackFromCycle", "(I)Z"⟩), (Jvm.Cond.instanceMethod ⟨"Daytimepair", "isBackFromCycle", "(I)Z"⟩)] → w ∈ tables_1 := mT1 123 (List.Sublist.cons₂ _ (List.Sublist.cons₂ _ (List.Sublist.cons _ (List.Sublist.cons _ (List.Sublist.cons₂ _ (List.Sublist.cons₂ _ (List.Sublist.cons _ (List.Sublist.cons _ (List.Sublist.cons₂ _ (List.Sublist.cons₂ _ (List.Sublist.cons _ (List.Sublist.cons _ (List.Sublist.cons _ (List.Sublist.cons _ (List.Sublist.cons _ (List.Sublist.cons _ (List.Sublist.cons _ (List.Sublist.cons _ (List.Sublist.cons _ (List.Sublist.cons _ (List.Sublist.cons₂ _ (List.Sublist.cons₂ _ (List.Sublist.cons _ (List.Sublist.cons _ (List.Sublist.cons₂ _ (List.Sublist.cons₂ _ (List.Sublist.cons _ (List.Sublist.cons _ (List.Sublist.cons₂ _ (List.Sublist.cons₂ _ (List.nil_sublist _)))))))))))))))))))))))))))))))
theorem tg123 : (Jvm.Cond.privateMethod ⟨"Daytimepair", "isItsDateAndTime", "(I)Z"⟩) ∈ tables_1 := tgs_123 _ mm0
theorem tg124 : (Jvm.Cond.instanceMethod ⟨"Daytimepair", "isItsDateAndTime", "(I)Z"⟩) ∈ tables_1 := tgs_123 _ mm1
theorem tg127 : (Jvm.Cond.privateMethod ⟨"Daytimepair", "yearDay", "(I)I"⟩) ∈ tables_1 := tgs_123 _ mm2
theorem tg128 : (Jvm.Cond.instanceMethod ⟨"Daytimepair", "yearDay", "(I)I"⟩) ∈ tables_1 := tgs_123 _ mm3
theorem tg131 : (Jvm.Cond.privateMethod ⟨"Daytimepair", "isBackFromNano", "(I)Z"⟩) ∈ tables_1 := tgs_123 _ mm4
theorem tg132 : (Jvm.Cond.instanceMethod ⟨"Daytimepair", "isBackFromNano", "(I)Z"⟩) ∈ tables_1 := tgs_123 _ mm5
theorem tg143 : (Jvm.Cond.privateMethod ⟨"Daytimepair", "isLineLess", "(IJJJ)Z"⟩) ∈ tables_1 := tgs_123 _ mm6
theorem tg144 : (Jvm.Cond.instanceMethod ⟨"Daytimepair", "isLineLess", "(IJJJ)Z"⟩) ∈ tables_1 := tgs_123 _ mm7
theorem tg147 : (Jvm.Cond.privateMethod ⟨"Daytimepair", "isBackFromDay", "(I)Z"⟩) ∈ tables_1 := tgs_123 _ mm8
theorem tg148 : (Jvm.Cond.instanceMethod ⟨"Daytimepair", "isBackFromDay", "(I)Z"⟩) ∈ tables_1 := tgs_123 _ mm9
theorem tg151 : (Jvm.Cond.privateMethod ⟨"Daytimepair", "isBackFromCycle", "(I)Z"⟩) ∈ tables_1 := tgs_123 _ mm10
theorem tg152 : (Jvm.Cond.instanceMethod ⟨"Daytimepair", "isBackFromCycle", "(I)Z"⟩) ∈ tables_1 := tgs_123 _ mm11
set_option maxRecDepth 10000 in
theorem tgs_177 : ∀ w : Cond, w ∈ [(Jvm.Cond.privateMethod ⟨"Daytimepair", "isSoundPair", "(II)Z"⟩), (Jvm.Cond.instanceMethod ⟨"Daytimepair", "isSoundPair", "(II)Z"⟩), (Jvm.Cond.privateMethod ⟨"Daytimepair", "order", "(II)I"⟩), (Jvm.Cond.instanceMethod ⟨"Daytimepair", "order", "(II)I"⟩), (Jvm.Cond.privateMethod ⟨"Daytimepair", "isSameLine", "(II)Z"⟩), (Jvm.Cond.instanceMethod ⟨"Daytimepair", "isSameLine", "(II)Z"⟩), (Jvm.Cond.privateMethod ⟨"Daytimepair", "gapInUnits", "(III)J"⟩), (Jvm.Cond.instanceMethod ⟨"Daytimepair", "gapInUnits", "(III)J"⟩), (Jvm.Cond.privateMethod ⟨"Daytimepair", "mixMoment", "(JI)J"⟩), (Jvm.Cond.instanceMethod ⟨"Daytimepair", "mixMoment", "(JI)J"⟩), (Jvm.Cond.privateMethod ⟨"Daytimepair", "houseNumber", "(I)I"⟩), (Jvm.Cond.instanceMethod ⟨"Daytimepair", "houseNumber", "(I)I"⟩), (Jvm.Cond.privateMethod ⟨"Daytimepair", "countRepeated", "()I"⟩), (Jvm.Cond.instanceMethod ⟨"Daytimepair", "countRepeated", "()I"⟩), (Jvm.Cond.privateMethod ⟨"Daytimepair", "isRepeated", "(I)Z"⟩), (Jvm.Cond.instanceMethod ⟨"Daytimepair", "isRepeated", "(I)Z"⟩), (Jvm.Cond.privateMethod ⟨"Daytimepair", "outermost", "(I)I"⟩), (Jvm.Cond.instanceMethod ⟨"Daytimepair", "outermost", "(I)I"⟩)] → w ∈ tables_1 := mT1 177 (List.Sublist.cons₂ _ (List.Sublist.cons₂ _ (List.Sublist.cons _ (List.Sublist.cons _ (List.Sublist.cons₂ _ (List.Sublist.cons₂ _ (List.Sublist.cons _ (List.Sublist.cons _ (List.Sublist.cons₂ _ (List.Sublist.cons₂ _ (List.Sublist.cons _ (List.Sublist.cons _ (List.Sublist.cons₂ _ (List.Sublist.cons₂ _ (List.Sublist.cons _ (List.Sublist.cons _ (List.Sublist.cons _ (List.Sublist.cons _ (List.Sublist.cons _ (List.Sublist.cons _ (List.Sublist.cons _ (List.Sublist.cons _ (List.Sublist.cons₂ _ (List.Sublist.cons₂ _ (List.Sublist.cons _ (List.Sublist.cons _ (List.Sublist.cons _ (List.Sublist.cons _ (List.Sublist.cons _ (List.Sublist.cons _ (List.Sublist.cons _ (List.Sublist.cons _ (List.Sublist.cons _ (List.Sublist.cons _ (List.Sublist.cons _ (List.Sublist.cons _ (List.Sublist.cons _ (List.Sublist.cons _ (List.Sublist.cons₂ _ (List.Sublist.cons₂ _ (List.Sublist.cons _ (List.Sublist.cons _ (List.Sublist.cons₂ _ (List.Sublist.cons₂ _ (List.Sublist.cons _ (List.Sublist.cons _ (List.Sublist.cons₂ _ (List.Sublist.cons₂ _ (List.Sublist.cons _ (List.Sublist.cons _ (List.Sublist.cons₂ _ (List.Sublist.cons₂ _ (List.nil_sublist _)))))))))))))))))))))))))))))))))))))))))))))))))))))
theorem tg177 : (Jvm.Cond.privateMethod ⟨"Daytimepair", "isSoundPair", "(II)Z"⟩) ∈ tables_1 := tgs_177 _ mm0
theorem tg178 : (Jvm.Cond.instanceMethod ⟨"Daytimepair", "isSoundPair", "(II)Z"⟩) ∈ tables_1 := tgs_177 _ mm1
theorem tg181 : (Jvm.Cond.privateMethod ⟨"Daytimepair", "order", "(II)I"⟩) ∈ tables_1 := tgs_177 _ mm2
theorem tg182 : (Jvm.Cond.instanceMethod ⟨"Daytimepair", "order", "(II)I"⟩) ∈ tables_1 := tgs_177 _ mm3
theorem tg185 : (Jvm.Cond.privateMethod ⟨"Daytimepair", "isSameLine", "(II)Z"⟩) ∈ tables_1 := tgs_177 _ mm4
theorem tg186 : (Jvm.Cond.instanceMethod ⟨"Daytimepair", "isSameLine", "(II)Z"⟩) ∈ tables_1 := tgs_177 _ mm5
theorem tg189 : (Jvm.Cond.privateMethod ⟨"Daytimepair", "gapInUnits", "(III)J"⟩) ∈ tables_1 := tgs_177 _ mm6
theorem tg190 : (Jvm.Cond.instanceMethod ⟨"Daytimepair", "gapInUnits", "(III)J"⟩) ∈ tables_1 := tgs_177 _ mm7
theorem tg199 : (Jvm.Cond.privateMethod ⟨"Daytimepair", "mixMoment", "(JI)J"⟩) ∈ tables_1 := tgs_177 _ mm8
theorem tg200 : (Jvm.Cond.instanceMethod ⟨"Daytimepair", "mixMoment", "(JI)J"⟩) ∈ tables_1 := tgs_177 _ mm9
theorem tg215 : (Jvm.Cond.privateMethod ⟨"Daytimepair", "houseNumber", "(I)I"⟩) ∈ tables_1 := tgs_177 _ mm10
theorem tg216 : (Jvm.Cond.instanceMethod ⟨"Daytimepair", "houseNumber", "(I)I"⟩) ∈ tables_1 := tgs_177 _ mm11
theorem tg219 : (Jvm.Cond.privateMethod ⟨"Daytimepair", "countRepeated", "()I"⟩) ∈ tables_1 := tgs_177 _ mm12
theorem tg220 : (Jvm.Cond.instanceMethod ⟨"Daytimepair", "countRepeated", "()I"⟩) ∈ tables_1 := tgs_177 _ mm13
theorem tg223 : (Jvm.Cond.privateMethod ⟨"Daytimepair", "isRepeated", "(I)Z"⟩) ∈ tables_1 := tgs_177 _ mm14
theorem tg224 : (Jvm.Cond.instanceMethod ⟨"Daytimepair", "isRepeated", "(I)Z"⟩) ∈ tables_1 := tgs_177 _ mm15
theorem tg227 : (Jvm.Cond.privateMethod ⟨"Daytimepair", "outermost", "(I)I"⟩) ∈ tables_1 := tgs_177 _ mm16
theorem tg228 : (Jvm.Cond.instanceMethod ⟨"Daytimepair", "outermost", "(I)I"⟩) ∈ tables_1 := tgs_177 _ mm17
set_option maxRecDepth 10000 in
theorem tgs_291 : ∀ w : Cond, w ∈ [(Jvm.Cond.privateMethod ⟨"java/lang/Throwable", "fillInStackTrace", "(I)Ljava/lang/Throwable;"⟩), (Jvm.Cond.instanceMethod ⟨"java/lang/Throwable", "fillInStackTrace", "(I)Ljava/lang/Throwable;"⟩), (Jvm.Cond.instantiable "java/lang/Throwable" (6 : Nat))] → w ∈ tables_1 := mT2 51 (List.Sublist.cons₂ _ (List.Sublist.cons₂ _ (List.Sublist.cons₂ _ (List.nil_sublist _))))
theorem tg291 : (Jvm.Cond.privateMethod ⟨"java/lang/Throwable", "fillInStackTrace", "(I)Ljava/lang/Throwable;"⟩) ∈ tables_1 := tgs_291 _ mm0
theorem tg292 : (Jvm.Cond.instanceMethod ⟨"java/lang/Throwable", "fillInStackTrace", "(I)Ljava/lang/Throwable;"⟩) ∈ tables_1 := tgs_291 _ mm1
theorem tg293 : (Jvm.Cond.instantiable "java/lang/Throwable" (6 : Nat)) ∈ tables_1 := tgs_291 _ mm2
set_option maxRecDepth 10000 in
theorem tgs_351 : ∀ w : Cond, w ∈ [(Jvm.Cond.privateMethod ⟨"Daytimepair", "handTime", "(I)J"⟩), (Jvm.Cond.instanceMethod ⟨"Daytimepair", "handTime", "(I)J"⟩), (Jvm.Cond.privateMethod ⟨"Daytimepair", "becomeDate", "(IIIIJ)I"⟩), (Jvm.Cond.instanceMethod ⟨"Daytimepair", "becomeDate", "(IIIIJ)I"⟩), (Jvm.Cond.privateMethod ⟨"Daytimepair", "refuse", "()I"⟩), (Jvm.Cond.instanceMethod ⟨"Daytimepair", "refuse", "()I"⟩), (Jvm.Cond.privateMethod ⟨"Daytimepair", "becomeDay", "(IJJ)I"⟩), (Jvm.Cond.instanceMethod ⟨"Daytimepair", "becomeDay", "(IJJ)I"⟩), (Jvm.Cond.privateMethod ⟨"Daytimepair", "becomeAs", "(IIJ)I"⟩), (Jvm.Cond.instanceMethod ⟨"Daytimepair", "becomeAs", "(IIJ)I"⟩)] → w ∈ tables_1 := mT2 111 (List.Sublist.cons₂ _ (List.Sublist.cons₂ _ (List.Sublist.cons _ (List.Sublist.cons _ (List.Sublist.cons₂ _ (List.Sublist.cons₂ _ (List.Sublist.cons _ (List.Sublist.cons _ (List.Sublist.cons₂ _ (List.Sublist.cons₂ _ (List.Sublist.cons _ (List.Sublist.cons _ (List.Sublist.cons _ (List.Sublist.cons _ (List.Sublist.cons _ (List.Sublist.cons _ (List.Sublist.cons _ (List.Sublist.cons _ (List.Sublist.cons _ (List.Sublist.cons _ (List.Sublist.cons _ (List.Sublist.cons₂ _ (List.Sublist.cons₂ _ (List.Sublist.cons _ (List.Sublist.cons _ (List.Sublist.cons _ (List.Sublist.cons _ (List.Sublist.cons _ (List.Sublist.cons _ (List.Sublist.cons _ (List.Sublist.cons _ (List.Sublist.cons _ (List.Sublist.cons _ (List.Sublist.cons _ (List.Sublist.cons _ (List.Sublist.cons _ (List.Sublist.cons _ (List.Sublist.cons _ (List.Sublist.cons _ (List.Sublist.cons _ (List.Sublist.cons₂ _ (List.Sublist.cons₂ _ (List.nil_sublist _)))))))))))))))))))))))))))))))))))))))))))
theorem tg351 : (Jvm.Cond.privateMethod ⟨"Daytimepair", "handTime", "(I)J"⟩) ∈ tables_1 := tgs_351 _ mm0
theorem tg352 : (Jvm.Cond.instanceMethod ⟨"Daytimepair", "handTime", "(I)J"⟩) ∈ tables_1 := tgs_351 _ mm1
theorem tg355 : (Jvm.Cond.privateMethod ⟨"Daytimepair", "becomeDate", "(IIIIJ)I"⟩) ∈ tables_1 := tgs_351 _ mm2
theorem tg356 : (Jvm.Cond.instanceMethod ⟨"Daytimepair", "becomeDate", "(IIIIJ)I"⟩) ∈ tables_1 := tgs_351 _ mm3
theorem tg359 : (Jvm.Cond.privateMethod ⟨"Daytimepair", "refuse", "()I"⟩) ∈ tables_1 := tgs_351 _ mm4
theorem tg360 : (Jvm.Cond.instanceMethod ⟨"Daytimepair", "refuse", "()I"⟩) ∈ tables_1 := tgs_351 _ mm5
theorem tg372 : (Jvm.Cond.privateMethod ⟨"Daytimepair", "becomeDay", "(IJJ)I"⟩) ∈ tables_1 := tgs_351 _ mm6
theorem tg373 : (Jvm.Cond.instanceMethod ⟨"Daytimepair", "becomeDay", "(IJJ)I"⟩) ∈ tables_1 := tgs_351 _ mm7
theorem tg391 : (Jvm.Cond.privateMethod ⟨"Daytimepair", "becomeAs", "(IIJ)I"⟩) ∈ tables_1 := tgs_351 _ mm8
theorem tg392 : (Jvm.Cond.instanceMethod ⟨"Daytimepair", "becomeAs", "(IIJ)I"⟩) ∈ tables_1 := tgs_351 _ mm9
set_option maxRecDepth 10000 in
theorem tgs_416 : ∀ w : Cond, w ∈ [(Jvm.Cond.privateMethod ⟨"Daytimepair", "becomeMonth", "(III)I"⟩), (Jvm.Cond.instanceMethod ⟨"Daytimepair", "becomeMonth", "(III)I"⟩)] → w ∈ tables_1 := mT2 176 (List.Sublist.cons₂ _ (List.Sublist.cons₂ _ (List.nil_sublist _)))
theorem tg416 : (Jvm.Cond.privateMethod ⟨"Daytimepair", "becomeMonth", "(III)I"⟩) ∈ tables_1 := tgs_416 _ mm0
theorem tg417 : (Jvm.Cond.instanceMethod ⟨"Daytimepair", "becomeMonth", "(III)I"⟩) ∈ tables_1 := tgs_416 _ mm1
set_option maxRecDepth 10000 in
theorem tgs_489 : ∀ w : Cond, w ∈ [(Jvm.Cond.privateMethod ⟨"Daytimepair", "goMonths", "(IJ)I"⟩), (Jvm.Cond.instanceMethod ⟨"Daytimepair", "goMonths", "(IJ)I"⟩), (Jvm.Cond.privateMethod ⟨"Daytimepair", "monthCount", "(I)J"⟩), (Jvm.Cond.instanceMethod ⟨"Daytimepair", "monthCount", "(I)J"⟩), (Jvm.Cond.privateMethod ⟨"Daytimepair", "goUnits", "(IJI)I"⟩), (Jvm.Cond.instanceMethod ⟨"Daytimepair", "goUnits", "(IJI)I"⟩), (Jvm.Cond.privateMethod ⟨"Daytimepair", "goLine", "(IJJ)I"⟩), (Jvm.Cond.instanceMethod ⟨"Daytimepair", "goLine", "(IJJ)I"⟩)] → w ∈ tables_1 := mT3 9 (List.Sublist.cons₂ _ (List.Sublist.cons₂ _ (List.Sublist.cons _ (List.Sublist.cons _ (List.Sublist.cons₂ _ (List.Sublist.cons₂ _ (List.Sublist.cons _ (List.Sublist.cons _ (List.Sublist.cons _ (List.Sublist.cons _ (List.Sublist.cons _ (List.Sublist.cons _ (List.Sublist.cons _ (List.Sublist.cons _ (List.Sublist.cons _ (List.Sublist.cons _ (List.Sublist.cons _ (List.Sublist.cons _ (List.Sublist.cons _ (List.Sublist.cons _ (List.Sublist.cons _ (List.Sublist.cons _ (List.Sublist.cons _ (List.Sublist.cons _ (List.Sublist.cons₂ _ (List.Sublist.cons₂ _ (List.Sublist.cons _ (List.Sublist.cons _ (List.Sublist.cons₂ _ (List.Sublist.cons₂ _ (List.nil_sublist _)))))))))))))))))))))))))))))))
theorem tg489 : (Jvm.Cond.privateMethod ⟨"Daytimepair", "goMonths", "(IJ)I"⟩) ∈ tables_1 := tgs_489 _ mm0
theorem tg490 : (Jvm.Cond.instanceMethod ⟨"Daytimepair", "goMonths", "(IJ)I"⟩) ∈ tables_1 := tgs_489 _ mm1
theorem tg493 : (Jvm.Cond.privateMethod ⟨"Daytimepair", "monthCount", "(I)J"⟩) ∈ tables_1 := tgs_489 _ mm2
theorem tg494 : (Jvm.Cond.instanceMethod ⟨"Daytimepair", "monthCount", "(I)J"⟩) ∈ tables_1 := tgs_489 _ mm3
theorem tg513 : (Jvm.Cond.privateMethod ⟨"Daytimepair", "goUnits", "(IJI)I"⟩) ∈ tables_1 := tgs_489 _ mm4
theorem tg514 : (Jvm.Cond.instanceMethod ⟨"Daytimepair", "goUnits", "(IJI)I"⟩) ∈ tables_1 := tgs_489 _ mm5
theorem tg517 : (Jvm.Cond.privateMethod ⟨"Daytimepair", "goLine", "(IJJ)I"⟩) ∈ tables_1 := tgs_489 _ mm6
theorem tg518 : (Jvm.Cond.instanceMethod ⟨"Daytimepair", "goLine", "(IJJ)I"⟩) ∈ tables_1 := tgs_489 _ mm7
set_option maxRecDepth 10000 in
theorem tgs_1038 : ∀ w : Cond, w ∈ [(Jvm.Cond.privateMethod ⟨"Daytimepair", "dateField", "(II)J"⟩), (Jvm.Cond.instanceMethod ⟨"Daytimepair", "dateField", "(II)J"⟩)] → w ∈ tables_1 := mT5 78 (List.Sublist.cons₂ _ (List.Sublist.cons₂ _ (List.nil_sublist _)))
theorem tg1038 : (Jvm.Cond.privateMethod ⟨"Daytimepair", "dateField", "(II)J"⟩) ∈ tables_1 := tgs_1038 _ mm0
theorem tg1039 : (Jvm.Cond.instanceMethod ⟨"Daytimepair", "dateField", "(II)J"⟩) ∈ tables_1 := tgs_1038 _ mm1
set_option maxRecDepth 10000 in
theorem tgs_1070 : ∀ w : Cond, w ∈ [(Jvm.Cond.privateMethod ⟨"Daytimepair", "gapText", "(III)Ljava/lang/String;"⟩), (Jvm.Cond.instanceMethod ⟨"Daytimepair", "gapText", "(III)Ljava/lang/String;"⟩), (Jvm.Cond.privateMethod ⟨"Daytimepair", "isGapRefused", "(III)Z"⟩), (Jvm.Cond.instanceMethod ⟨"Daytimepair", "isGapRefused", "(III)Z"⟩), (Jvm.Cond.privateMethod ⟨"Daytimepair", "gapInMonths", "(II)J"⟩), (Jvm.Cond.instanceMethod ⟨"Daytimepair", "gapInMonths", "(II)J"⟩), (Jvm.Cond.privateMethod ⟨"Daytimepair", "wholeMonths", "(II)J"⟩), (Jvm.Cond.instanceMethod ⟨"Daytimepair", "wholeMonths", "(II)J"⟩), (Jvm.Cond.instantiable "DaytimepairModel" (12 : Nat))] → w ∈ tables_1 := mT5 110 (List.Sublist.cons₂ _ (List.Sublist.cons₂ _ (List.Sublist.cons _ (List.Sublist.cons _ (List.Sublist.cons₂ _ (List.Sublist.cons₂ _ (List.Sublist.cons _ (List.Sublist.cons _ (List.Sublist.cons _ (List.Sublist.cons _ (List.Sublist.cons₂ _ (List.Sublist.cons₂ _ (List.Sublist.cons _ (List.Sublist.cons _ (List.Sublist.cons₂ _ (List.Sublist.cons₂ _ (List.Sublist.cons _ (List.Sublist.cons _ (List.Sublist.cons _ (List.Sublist.cons _ (List.Sublist.cons _ (List.Sublist.cons _ (List.Sublist.cons _ (List.Sublist.cons _ (List.Sublist.cons _ (List.Sublist.cons _ (List.Sublist.cons _ (List.Sublist.cons _ (List.Sublist.cons _ (List.Sublist.cons _ (List.Sublist.cons _ (List.Sublist.cons _ (List.Sublist.cons₂ _ (List.nil_sublist _))))))))))))))))))))))))))))))))))
theorem tg1070 : (Jvm.Cond.privateMethod ⟨"Daytimepair", "gapText", "(III)Ljava/lang/String;"⟩) ∈ tables_1 := tgs_1070 _ mm0
theorem tg1071 : (Jvm.Cond.instanceMethod ⟨"Daytimepair", "gapText", "(III)Ljava/lang/String;"⟩) ∈ tables_1 := tgs_1070 _ mm1
theorem tg1074 : (Jvm.Cond.privateMethod ⟨"Daytimepair", "isGapRefused", "(III)Z"⟩) ∈ tables_1 := tgs_1070 _ mm2
theorem tg1075 : (Jvm.Cond.instanceMethod ⟨"Daytimepair", "isGapRefused", "(III)Z"⟩) ∈ tables_1 := tgs_1070 _ mm3
theorem tg1080 : (Jvm.Cond.privateMethod ⟨"Daytimepair", "gapInMonths", "(II)J"⟩) ∈ tables_1 := tgs_1070 _ mm4
theorem tg1081 : (Jvm.Cond.instanceMethod ⟨"Daytimepair", "gapInMonths", "(II)J"⟩) ∈ tables_1 := tgs_1070 _ mm5
theorem tg1084 : (Jvm.Cond.privateMethod ⟨"Daytimepair", "wholeMonths", "(II)J"⟩) ∈ tables_1 := tgs_1070 _ mm6
theorem tg1085 : (Jvm.Cond.instanceMethod ⟨"Daytimepair", "wholeMonths", "(II)J"⟩) ∈ tables_1 := tgs_1070 _ mm7
theorem tg1102 : (Jvm.Cond.instantiable "DaytimepairModel" (12 : Nat)) ∈ tables_1 := tgs_1070 _ mm8
set_option maxRecDepth 10000 in
theorem tgs_1164 : ∀ w : Cond, w ∈ [(Jvm.Cond.privateMethod ⟨"DaytimepairModel", "refuses", "(ZZ)Z"⟩), (Jvm.Cond.instanceMethod ⟨"DaytimepairModel", "refuses", "(ZZ)Z"⟩), (Jvm.Cond.privateMethod ⟨"DaytimepairModel", "refuse", "()I"⟩), (Jvm.Cond.instanceMethod ⟨"DaytimepairModel", "refuse", "()I"⟩), (Jvm.Cond.privateMethod ⟨"DaytimepairModel", "handTime", "(I)J"⟩), (Jvm.Cond.instanceMethod ⟨"DaytimepairModel", "handTime", "(I)J"⟩), (Jvm.Cond.privateMethod ⟨"DaytimepairModel", "become", "(IIIIJ)I"⟩), (Jvm.Cond.instanceMethod ⟨"DaytimepairModel", "become", "(IIIIJ)I"⟩), (Jvm.Cond.privateMethod ⟨"DaytimepairModel", "weekDayNow", "(I)I"⟩), (Jvm.Cond.instanceMethod ⟨"DaytimepairModel", "weekDayNow", "(I)I"⟩), (Jvm.Cond.privateMethod ⟨"DaytimepairModel", "dayNow", "(I)J"⟩), (Jvm.Cond.instanceMethod ⟨"DaytimepairModel", "dayNow", "(I)J"⟩)] → w ∈ tables_1 := mT5 204 (List.Sublist.cons₂ _ (List.Sublist.cons₂ _ (List.Sublist.cons _ (List.Sublist.cons _ (List.Sublist.cons _ (List.Sublist.cons _ (List.Sublist.cons _ (List.Sublist.cons _ (List.Sublist.cons _ (List.Sublist.cons _ (List.Sublist.cons₂ _ (List.Sublist.cons₂ _ (List.Sublist.cons _ (List.Sublist.cons _ (List.Sublist.cons₂ _ (List.Sublist.cons₂ _ (List.Sublist.cons _ (List.Sublist.cons _ (List.Sublist.cons _ (List.Sublist.cons _ (List.Sublist.cons₂ _ (List.Sublist.cons₂ _ (List.Sublist.cons _ (List.Sublist.cons _ (List.Sublist.cons₂ _ (List.Sublist.cons₂ _ (List.Sublist.cons _ (List.Sublist.cons _ (List.Sublist.cons₂ _ (List.Sublist.cons₂ _ (List.nil_sublist _)))))))))))))))))))))))))))))))
theorem tg1164 : (Jvm.Cond.privateMethod ⟨"DaytimepairModel", "refuses", "(ZZ)Z"⟩) ∈ tables_1 := tgs_1164 _ mm0
theorem tg1165 : (Jvm.Cond.instanceMethod ⟨"DaytimepairModel", "refuses", "(ZZ)Z"⟩) ∈ tables_1 := tgs_1164 _ mm1
theorem tg1174 : (Jvm.Cond.privateMethod ⟨"DaytimepairModel", "refuse", "()I"⟩) ∈ tables_1 := tgs_1164 _ mm2
theorem tg1175 : (Jvm.Cond.instanceMethod ⟨"DaytimepairModel", "refuse", "()I"⟩) ∈ tables_1 := tgs_1164 _ mm3
theorem tg1178 : (Jvm.Cond.privateMethod ⟨"DaytimepairModel", "handTime", "(I)J"⟩) ∈ tables_1 := tgs_1164 _ mm4
theorem tg1179 : (Jvm.Cond.instanceMethod ⟨"DaytimepairModel", "handTime", "(I)J"⟩) ∈ tables_1 := tgs_1164 _ mm5
theorem tg1184 : (Jvm.Cond.privateMethod ⟨"DaytimepairModel", "become", "(IIIIJ)I"⟩) ∈ tables_1 := tgs_1164 _ mm6
theorem tg1185 : (Jvm.Cond.instanceMethod ⟨"DaytimepairModel", "become", "(IIIIJ)I"⟩) ∈ tables_1 := tgs_1164 _ mm7
theorem tg1188 : (Jvm.Cond.privateMethod ⟨"DaytimepairModel", "weekDayNow", "(I)I"⟩) ∈ tables_1 := tgs_1164 _ mm8
theorem tg1189 : (Jvm.Cond.instanceMethod ⟨"DaytimepairModel", "weekDayNow", "(I)I"⟩) ∈ tables_1 := tgs_1164 _ mm9
theorem tg1192 : (Jvm.Cond.privateMethod ⟨"DaytimepairModel", "dayNow", "(I)J"⟩) ∈ tables_1 := tgs_1164 _ mm10
theorem tg1193 : (Jvm.Cond.instanceMethod ⟨"DaytimepairModel", "dayNow", "(I)J"⟩) ∈ tables_1 := tgs_1164 _ mm11
set_option maxRecDepth 10000 in
theorem tgs_1226 : ∀ w : Cond, w ∈ [(Jvm.Cond.privateMethod ⟨"DaytimepairModel", "becomeDay", "(IJJ)I"⟩), (Jvm.Cond.instanceMethod ⟨"DaytimepairModel", "becomeDay", "(IJJ)I"⟩)] → w ∈ tables_1 := mT6 26 (List.Sublist.cons₂ _ (List.Sublist.cons₂ _ (List.nil_sublist _)))
theorem tg1226 : (Jvm.Cond.privateMethod ⟨"DaytimepairModel", "becomeDay", "(IJJ)I"⟩) ∈ tables_1 := tgs_1226 _ mm0
theorem tg1227 : (Jvm.Cond.instanceMethod ⟨"DaytimepairModel", "becomeDay", "(IJJ)I"⟩) ∈ tables_1 := tgs_1226 _ mm1
set_option maxRecDepth 10000 in
theorem tgs_1253 : ∀ w : Cond, w ∈ [(Jvm.Cond.privateMethod ⟨"DaytimepairModel", "becomeMonth", "(IJI)I"⟩), (Jvm.Cond.instanceMethod ⟨"DaytimepairModel", "becomeMonth", "(IJI)I"⟩)] → w ∈ tables_1 := mT6 53 (List.Sublist.cons₂ _ (List.Sublist.cons₂ _ (List.nil_sublist _)))
theorem tg1253 : (Jvm.Cond.privateMethod ⟨"DaytimepairModel", "becomeMonth", "(IJI)I"⟩) ∈ tables_1 := tgs_1253 _ mm0
theorem tg1254 : (Jvm.Cond.instanceMethod ⟨"DaytimepairModel", "becomeMonth", "(IJI)I"⟩) ∈ tables_1 := tgs_1253 _ mm1
set_option maxRecDepth 10000 in
theorem tgs_1278 : ∀ w : Cond, w ∈ [(Jvm.Cond.privateMethod ⟨"DaytimepairModel", "withPart", "(IJJJ)I"⟩), (Jvm.Cond.instanceMethod ⟨"DaytimepairModel", "withPart", "(IJJJ)I"⟩)] → w ∈ tables_1 := mT6 78 (List.Sublist.cons₂ _ (List.Sublist.cons₂ _ (List.nil_sublist _)))
theorem tg1278 : (Jvm.Cond.privateMethod ⟨"DaytimepairModel", "withPart", "(IJJJ)I"⟩) ∈ tables_1 := tgs_1278 _ mm0
theorem tg1279 : (Jvm.Cond.instanceMethod ⟨"DaytimepairModel", "withPart", "(IJJJ)I"⟩) ∈ tables_1 := tgs_1278 _ mm1
set_option maxRecDepth 10000 in
theorem tgs_1314 : ∀ w : Cond, w ∈ [(Jvm.Cond.privateMethod ⟨"DaytimepairModel", "onMonths", "(IJ)I"⟩), (Jvm.Cond.instanceMethod ⟨"DaytimepairModel", "onMonths", "(IJ)I"⟩), (Jvm.Cond.privateMethod ⟨"DaytimepairModel", "onLine", "(IJJ)I"⟩), (Jvm.Cond.instanceMethod ⟨"DaytimepairModel", "onLine", "(IJJ)I"⟩)] → w ∈ tables_1 := mT6 114 (List.Sublist.cons₂ _ (List.Sublist.cons₂ _ (List.Sublist.cons _ (List.Sublist.cons _ (List.Sublist.cons _ (List.Sublist.cons _ (List.Sublist.cons _ (List.Sublist.cons _ (List.Sublist.cons _ (List.Sublist.cons _ (List.Sublist.cons _ (List.Sublist.cons _ (List.Sublist.cons₂ _ (List.Sublist.cons₂ _ (List.nil_sublist _)))))))))))))))
theorem tg1314 : (Jvm.Cond.privateMethod ⟨"DaytimepairModel", "onMonths", "(IJ)I"⟩) ∈ tables_1 := tgs_1314 _ mm0
theorem tg1315 : (Jvm.Cond.instanceMethod ⟨"DaytimepairModel", "onMonths", "(IJ)I"⟩) ∈ tables_1 := tgs_1314 _ mm1
theorem tg1326 : (Jvm.Cond.privateMethod ⟨"DaytimepairModel", "onLine", "(IJJ)I"⟩) ∈ tables_1 := tgs_1314 _ mm2
theorem tg1327 : (Jvm.Cond.instanceMethod ⟨"DaytimepairModel", "onLine", "(IJJ)I"⟩) ∈ tables_1 := tgs_1314 _ mm3
set_option maxRecDepth 10000 in
theorem tgs_1409 : ∀ w : Cond, w ∈ [(Jvm.Cond.privateMethod ⟨"DaytimepairModel", "inYearNow", "(I)I"⟩), (Jvm.Cond.instanceMethod ⟨"DaytimepairModel", "inYearNow", "(I)I"⟩), (Jvm.Cond.privateMethod ⟨"DaytimepairModel", "part", "(IJJ)I"⟩), (Jvm.Cond.instanceMethod ⟨"DaytimepairModel", "part", "(IJJ)I"⟩)] → w ∈ tables_1 := mT6 209 (List.Sublist.cons₂ _ (List.Sublist.cons₂ _ (List.Sublist.cons _ (List.Sublist.cons _ (List.Sublist.cons _ (List.Sublist.cons _ (List.Sublist.cons _ (List.Sublist.cons _ (List.Sublist.cons _ (List.Sublist.cons _ (List.Sublist.cons _ (List.Sublist.cons _ (List.Sublist.cons₂ _ (List.Sublist.cons₂ _ (List.nil_sublist _)))))))))))))))
theorem tg1409 : (Jvm.Cond.privateMethod ⟨"DaytimepairModel", "inYearNow", "(I)I"⟩) ∈ tables_1 := tgs_1409 _ mm0
theorem tg1410 : (Jvm.Cond.instanceMethod ⟨"DaytimepairModel", "inYearNow", "(I)I"⟩) ∈ tables_1 := tgs_1409 _ mm1
theorem tg1421 : (Jvm.Cond.privateMethod ⟨"DaytimepairModel", "part", "(IJJ)I"⟩) ∈ tables_1 := tgs_1409 _ mm2
theorem tg1422 : (Jvm.Cond.instanceMethod ⟨"DaytimepairModel", "part", "(IJJ)I"⟩) ∈ tables_1 := tgs_1409 _ mm3
set_option maxRecDepth 10000 in
theorem tgs_1494 : ∀ w : Cond, w ∈ [(Jvm.Cond.privateMethod ⟨"DaytimepairModel", "ofTime", "(II)J"⟩), (Jvm.Cond.instanceMethod ⟨"DaytimepairModel", "ofTime", "(II)J"⟩), (Jvm.Cond.privateMethod ⟨"DaytimepairModel", "ofDate", "(II)J"⟩), (Jvm.Cond.instanceMethod ⟨"DaytimepairModel", "ofDate", "(II)J"⟩), (Jvm.Cond.privateMethod ⟨"DaytimepairModel", "order", "(II)I"⟩), (Jvm.Cond.instanceMethod ⟨"DaytimepairModel", "order", "(II)I"⟩), (Jvm.Cond.privateMethod ⟨"DaytimepairModel", "betweenNow", "(III)Ljava/lang/String;"⟩), (Jvm.Cond.instanceMethod ⟨"DaytimepairModel", "betweenNow", "(III)Ljava/lang/String;"⟩), (Jvm.Cond.privateMethod ⟨"DaytimepairModel", "lineBetween", "(III)J"⟩), (Jvm.Cond.instanceMethod ⟨"DaytimepairModel", "lineBetween", "(III)J"⟩), (Jvm.Cond.privateMethod ⟨"DaytimepairModel", "monthsOn", "(II)J"⟩), (Jvm.Cond.instanceMethod ⟨"DaytimepairModel", "monthsOn", "(II)J"⟩), (Jvm.Cond.privateMethod ⟨"DaytimepairModel", "monthsBack", "(II)J"⟩), (Jvm.Cond.instanceMethod ⟨"DaytimepairModel", "monthsBack", "(II)J"⟩), (Jvm.Cond.privateMethod ⟨"DaytimepairModel", "houseNow", "(I)I"⟩), (Jvm.Cond.instanceMethod ⟨"DaytimepairModel", "houseNow", "(I)I"⟩), (Jvm.Cond.privateMethod ⟨"DaytimepairModel", "likeOnes", "()I"⟩), (Jvm.Cond.instanceMethod ⟨"DaytimepairModel", "likeOnes", "()I"⟩), (Jvm.Cond.privateMethod ⟨"DaytimepairModel", "outer", "(I)I"⟩), (Jvm.Cond.instanceMethod ⟨"DaytimepairModel", "outer", "(I)I"⟩)] → w ∈ tables_1 := mT7 54 (List.Sublist.cons₂ _ (List.Sublist.cons₂ _ (List.Sublist.cons _ (List.Sublist.cons _ (List.Sublist.cons₂ _ (List.Sublist.cons₂ _ (List.Sublist.cons _ (List.Sublist.cons _ (List.Sublist.cons _ (List.Sublist.cons _ (List.Sublist.cons _ (List.Sublist.cons _ (List.Sublist.cons₂ _ (List.Sublist.cons₂ _ (List.Sublist.cons _ (List.Sublist.cons _ (List.Sublist.cons _ (List.Sublist.cons _ (List.Sublist.cons _ (List.Sublist.cons _ (List.Sublist.cons _ (List.Sublist.cons _ (List.Sublist.cons _ (List.Sublist.cons _ (List.Sublist.cons _ (List.Sublist.cons _ (List.Sublist.cons _ (List.Sublist.cons _ (List.Sublist.cons₂ _ (List.Sublist.cons₂ _ (List.Sublist.cons _ (List.Sublist.cons _ (List.Sublist.cons _ (List.Sublist.cons _ (List.Sublist.cons _ (List.Sublist.cons₂ _ (List.Sublist.cons₂ _ (List.Sublist.cons _ (List.Sublist.cons _ (List.Sublist.cons₂ _ (List.Sublist.cons₂ _ (List.Sublist.cons _ (List.Sublist.cons _ (List.Sublist.cons₂ _ (List.Sublist.cons₂ _ (List.Sublist.cons _ (List.Sublist.cons _ (List.Sublist.cons _ (List.Sublist.cons _ (List.Sublist.cons _ (List.Sublist.cons _ (List.Sublist.cons _ (List.Sublist.cons _ (List.Sublist.cons _ (List.Sublist.cons _ (List.Sublist.cons₂ _ (List.Sublist.cons₂ _ (List.Sublist.cons _ (List.Sublist.cons _ (List.Sublist.cons₂ _ (List.Sublist.cons₂ _ (List.Sublist.cons _ (List.Sublist.cons _ (List.Sublist.cons₂ _ (List.Sublist.cons₂ _ (List.nil_sublist _))))))))))))))))))))))))))))))))))))))))))))))))))))))))))))))))))
theorem tg1494 : (Jvm.Cond.privateMethod ⟨"DaytimepairModel", "ofTime", "(II)J"⟩) ∈ tables_1 := tgs_1494 _ mm0
theorem tg1495 : (Jvm.Cond.instanceMethod ⟨"DaytimepairModel", "ofTime", "(II)J"⟩) ∈ tables_1 := tgs_1494 _ mm1
theorem tg1498 : (Jvm.Cond.privateMethod ⟨"DaytimepairModel", "ofDate", "(II)J"⟩) ∈ tables_1 := tgs_1494 _ mm2
theorem tg1499 : (Jvm.Cond.instanceMethod ⟨"DaytimepairModel", "ofDate", "(II)J"⟩) ∈ tables_1 := tgs_1494 _ mm3
theorem tg1506 : (Jvm.Cond.privateMethod ⟨"DaytimepairModel", "order", "(II)I"⟩) ∈ tables_1 := tgs_1494 _ mm4
theorem tg1507 : (Jvm.Cond.instanceMethod ⟨"DaytimepairModel", "order", "(II)I"⟩) ∈ tables_1 := tgs_1494 _ mm5
theorem tg1522 : (Jvm.Cond.privateMethod ⟨"DaytimepairModel", "betweenNow", "(III)Ljava/lang/String;"⟩) ∈ tables_1 := tgs_1494 _ mm6
theorem tg1523 : (Jvm.Cond.instanceMethod ⟨"DaytimepairModel", "betweenNow", "(III)Ljava/lang/String;"⟩) ∈ tables_1 := tgs_1494 _ mm7
theorem tg1529 : (Jvm.Cond.privateMethod ⟨"DaytimepairModel", "lineBetween", "(III)J"⟩) ∈ tables_1 := tgs_1494 _ mm8
theorem tg1530 : (Jvm.Cond.instanceMethod ⟨"DaytimepairModel", "lineBetween", "(III)J"⟩) ∈ tables_1 := tgs_1494 _ mm9
theorem tg1533 : (Jvm.Cond.privateMethod ⟨"DaytimepairModel", "monthsOn", "(II)J"⟩) ∈ tables_1 := tgs_1494 _ mm10
theorem tg1534 : (Jvm.Cond.instanceMethod ⟨"DaytimepairModel", "monthsOn", "(II)J"⟩) ∈ tables_1 := tgs_1494 _ mm11
theorem tg1537 : (Jvm.Cond.privateMethod ⟨"DaytimepairModel", "monthsBack", "(II)J"⟩) ∈ tables_1 := tgs_1494 _ mm12
theorem tg1538 : (Jvm.Cond.instanceMethod ⟨"DaytimepairModel", "monthsBack", "(II)J"⟩) ∈ tables_1 := tgs_1494 _ mm13
theorem tg1549 : (Jvm.Cond.privateMethod ⟨"DaytimepairModel", "houseNow", "(I)I"⟩) ∈ tables_1 := tgs_1494 _ mm14
theorem tg1550 : (Jvm.Cond.instanceMethod ⟨"DaytimepairModel", "houseNow", "(I)I"⟩) ∈ tables_1 := tgs_1494 _ mm15
theorem tg1553 : (Jvm.Cond.privateMethod ⟨"DaytimepairModel", "likeOnes", "()I"⟩) ∈ tables_1 := tgs_1494 _ mm16
theorem tg1554 : (Jvm.Cond.instanceMethod ⟨"DaytimepairModel", "likeOnes", "()I"⟩) ∈ tables_1 := tgs_1494 _ mm17
theorem tg1557 : (Jvm.Cond.privateMethod ⟨"DaytimepairModel", "outer", "(I)I"⟩) ∈ tables_1 := tgs_1494 _ mm18
theorem tg1558 : (Jvm.Cond.instanceMethod ⟨"DaytimepairModel", "outer", "(I)I"⟩) ∈ tables_1 := tgs_1494 _ mm19
theorem lwn_0 : ("Daytimepair" : String) ≠ "java/lang/invoke/MethodHandle" ∧ ("Daytimepair" : String) ≠ "java/lang/invoke/VarHandle" := ⟨by decide +kernel, by decide +kernel⟩
theorem lwn_1 : ("java/lang/Throwable" : String) ≠ "java/lang/invoke/MethodHandle" ∧ ("java/lang/Throwable" : String) ≠ "java/lang/invoke/VarHandle" := ⟨by decide +kernel, by decide +kernel⟩
theorem lwn_2 : ("DaytimepairModel" : String) ≠ "java/lang/invoke/MethodHandle" ∧ ("DaytimepairModel" : String) ≠ "java/lang/invoke/VarHandle" := ⟨by decide +kernel, by decide +kernel⟩
