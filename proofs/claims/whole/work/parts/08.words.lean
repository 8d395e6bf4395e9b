theorem qb_m100 : (Int8.ofInt (-100)).toInt32 = (-100 : Int32) := by decide
theorem qb_m9 : (Int8.ofInt (-9)).toInt32 = (-9 : Int32) := by decide
theorem qb_10 : (Int8.ofInt (10)).toInt32 = (10 : Int32) := by decide
theorem qb_100 : (Int8.ofInt (100)).toInt32 = (100 : Int32) := by decide
theorem qb_11 : (Int8.ofInt (11)).toInt32 = (11 : Int32) := by decide
theorem qb_12 : (Int8.ofInt (12)).toInt32 = (12 : Int32) := by decide
theorem qb_120 : (Int8.ofInt (120)).toInt32 = (120 : Int32) := by decide
theorem qb_13 : (Int8.ofInt (13)).toInt32 = (13 : Int32) := by decide
theorem qb_14 : (Int8.ofInt (14)).toInt32 = (14 : Int32) := by decide
theorem qb_15 : (Int8.ofInt (15)).toInt32 = (15 : Int32) := by decide
theorem qb_16 : (Int8.ofInt (16)).toInt32 = (16 : Int32) := by decide
theorem qb_19 : (Int8.ofInt (19)).toInt32 = (19 : Int32) := by decide
theorem qb_23 : (Int8.ofInt (23)).toInt32 = (23 : Int32) := by decide
theorem qb_27 : (Int8.ofInt (27)).toInt32 = (27 : Int32) := by decide
theorem qb_28 : (Int8.ofInt (28)).toInt32 = (28 : Int32) := by decide
theorem qb_29 : (Int8.ofInt (29)).toInt32 = (29 : Int32) := by decide
theorem qb_30 : (Int8.ofInt (30)).toInt32 = (30 : Int32) := by decide
theorem qb_31 : (Int8.ofInt (31)).toInt32 = (31 : Int32) := by decide
theorem qb_45 : (Int8.ofInt (45)).toInt32 = (45 : Int32) := by decide
theorem qb_59 : (Int8.ofInt (59)).toInt32 = (59 : Int32) := by decide
theorem qb_6 : (Int8.ofInt (6)).toInt32 = (6 : Int32) := by decide
theorem qb_60 : (Int8.ofInt (60)).toInt32 = (60 : Int32) := by decide
theorem qb_63 : (Int8.ofInt (63)).toInt32 = (63 : Int32) := by decide
theorem qb_7 : (Int8.ofInt (7)).toInt32 = (7 : Int32) := by decide
theorem qb_8 : (Int8.ofInt (8)).toInt32 = (8 : Int32) := by decide
theorem qb_9 : (Int8.ofInt (9)).toInt32 = (9 : Int32) := by decide
theorem qb_99 : (Int8.ofInt (99)).toInt32 = (99 : Int32) := by decide
theorem qi_m1 : Int32.ofInt (-1) = (-1 : Int32) := by decide
theorem qi_0 : Int32.ofInt (0) = (0 : Int32) := by decide
theorem qi_1 : Int32.ofInt (1) = (1 : Int32) := by decide
theorem qi_2 : Int32.ofInt (2) = (2 : Int32) := by decide
theorem qi_3 : Int32.ofInt (3) = (3 : Int32) := by decide
theorem qi_4 : Int32.ofInt (4) = (4 : Int32) := by decide
theorem qi_5 : Int32.ofInt (5) = (5 : Int32) := by decide
theorem ql_0 : Int64.ofNat (((0 : Fin 2)) : Nat) = (0 : Int64) := by decide
theorem ql_1 : Int64.ofNat (((1 : Fin 2)) : Nat) = (1 : Int64) := by decide
theorem qs_m9999 : (Int16.ofInt (-9999)).toInt32 = (-9999 : Int32) := by decide
theorem qs_1000 : (Int16.ofInt (1000)).toInt32 = (1000 : Int32) := by decide
theorem qs_1200 : (Int16.ofInt (1200)).toInt32 = (1200 : Int32) := by decide
theorem qs_12000 : (Int16.ofInt (12000)).toInt32 = (12000 : Int32) := by decide
theorem qs_2000 : (Int16.ofInt (2000)).toInt32 = (2000 : Int32) := by decide
theorem qs_255 : (Int16.ofInt (255)).toInt32 = (255 : Int32) := by decide
theorem qs_365 : (Int16.ofInt (365)).toInt32 = (365 : Int32) := by decide
theorem qs_366 : (Int16.ofInt (366)).toInt32 = (366 : Int32) := by decide
theorem qs_399 : (Int16.ofInt (399)).toInt32 = (399 : Int32) := by decide
theorem qs_400 : (Int16.ofInt (400)).toInt32 = (400 : Int32) := by decide
theorem qs_9999 : (Int16.ofInt (9999)).toInt32 = (9999 : Int32) := by decide
theorem pnN_RJ0 : plainName RJ0 = true := by decide +kernel
theorem pnN_RJ1 : plainName RJ1 = true := by decide +kernel
theorem pnN_RJ13 : plainName RJ13 = true := by decide +kernel
theorem pnN_RJ4 : plainName RJ4 = true := by decide +kernel
theorem pnN_RJ5 : plainName RJ5 = true := by decide +kernel
theorem pnN_RJ7 : plainName RJ7 = true := by decide +kernel
theorem pnN_RJ8 : plainName RJ8 = true := by decide +kernel
theorem pnN_RL : plainName RL = true := by decide +kernel
theorem pnN_RX0 : plainName RX0 = true := by decide +kernel
theorem pnN_RX1 : plainName RX1 = true := by decide +kernel
theorem pnN_RX2 : plainName RX2 = true := by decide +kernel
theorem nhN_RJ0 : RJ0 ≠ "java/lang/invoke/MethodHandle" ∧ RJ0 ≠ "java/lang/invoke/VarHandle" := by decide +kernel
theorem nhN_RJ1 : RJ1 ≠ "java/lang/invoke/MethodHandle" ∧ RJ1 ≠ "java/lang/invoke/VarHandle" := by decide +kernel
theorem nhN_RJ13 : RJ13 ≠ "java/lang/invoke/MethodHandle" ∧ RJ13 ≠ "java/lang/invoke/VarHandle" := by decide +kernel
theorem nhN_RJ4 : RJ4 ≠ "java/lang/invoke/MethodHandle" ∧ RJ4 ≠ "java/lang/invoke/VarHandle" := by decide +kernel
theorem nhN_RJ5 : RJ5 ≠ "java/lang/invoke/MethodHandle" ∧ RJ5 ≠ "java/lang/invoke/VarHandle" := by decide +kernel
theorem nhN_RJ7 : RJ7 ≠ "java/lang/invoke/MethodHandle" ∧ RJ7 ≠ "java/lang/invoke/VarHandle" := by decide +kernel
theorem nhN_RJ8 : RJ8 ≠ "java/lang/invoke/MethodHandle" ∧ RJ8 ≠ "java/lang/invoke/VarHandle" := by decide +kernel
theorem nhN_RJ9 : RJ9 ≠ "java/lang/invoke/MethodHandle" ∧ RJ9 ≠ "java/lang/invoke/VarHandle" := by decide +kernel
theorem nhN_RX0 : RX0 ≠ "java/lang/invoke/MethodHandle" ∧ RX0 ≠ "java/lang/invoke/VarHandle" := by decide +kernel
theorem nhN_RX1 : RX1 ≠ "java/lang/invoke/MethodHandle" ∧ RX1 ≠ "java/lang/invoke/VarHandle" := by decide +kernel
theorem nhN_RX2 : RX2 ≠ "java/lang/invoke/MethodHandle" ∧ RX2 ≠ "java/lang/invoke/VarHandle" := by decide +kernel
theorem pdN_0 : Option.map (fun d => d.parameters.length) (parseMethodDescriptor "(I)Z") = some 1 := by decide +kernel
theorem pdN_1 : Option.map (fun d => d.parameters.length) (parseMethodDescriptor "(II)I") = some 2 := by decide +kernel
theorem pdN_2 : Option.map (fun d => d.parameters.length) (parseMethodDescriptor "(I)J") = some 1 := by decide +kernel
theorem pdN_3 : Option.map (fun d => d.parameters.length) (parseMethodDescriptor "(JJ)J") = some 2 := by decide +kernel
theorem pdN_4 : Option.map (fun d => d.parameters.length) (parseMethodDescriptor "(J)I") = some 1 := by decide +kernel
theorem pdN_5 : Option.map (fun d => d.parameters.length) (parseMethodDescriptor "(JI)J") = some 2 := by decide +kernel
theorem pdN_6 : Option.map (fun d => d.parameters.length) (parseMethodDescriptor "(III)Z") = some 3 := by decide +kernel
theorem pdN_7 : Option.map (fun d => d.parameters.length) (parseMethodDescriptor "(J)J") = some 1 := by decide +kernel
theorem pdN_8 : Option.map (fun d => d.parameters.length) (parseMethodDescriptor "(III)I") = some 3 := by decide +kernel
theorem pdN_9 : Option.map (fun d => d.parameters.length) (parseMethodDescriptor "(IIII)J") = some 4 := by decide +kernel
theorem pdN_10 : Option.map (fun d => d.parameters.length) (parseMethodDescriptor "(II)J") = some 2 := by decide +kernel
theorem pdN_11 : Option.map (fun d => d.parameters.length) (parseMethodDescriptor "(II)Z") = some 2 := by decide +kernel
theorem pdN_12 : Option.map (fun d => d.parameters.length) (parseMethodDescriptor "()I") = some 0 := by decide +kernel
theorem pdN_13 : Option.map (fun d => d.parameters.length) (parseMethodDescriptor "(I)I") = some 1 := by decide +kernel
theorem pdN_14 : Option.map (fun d => d.parameters.length) (parseMethodDescriptor "(III)J") = some 3 := by decide +kernel
theorem pdN_15 : Option.map (fun d => d.parameters.length) (parseMethodDescriptor "(IJJJ)Z") = some 4 := by decide +kernel
theorem pdN_16 : Option.map (fun d => d.parameters.length) (parseMethodDescriptor "(J)Z") = some 1 := by decide +kernel
theorem pdN_17 : Option.map (fun d => d.parameters.length) (parseMethodDescriptor "(IJJ)I") = some 3 := by decide +kernel
theorem pdN_18 : Option.map (fun d => d.parameters.length) (parseMethodDescriptor "(I)V") = some 1 := by decide +kernel
theorem pdN_19 : Option.map (fun d => d.parameters.length) (parseMethodDescriptor "(III)V") = some 3 := by decide +kernel
theorem pdN_20 : Option.map (fun d => d.parameters.length) (parseMethodDescriptor "(IIIIJ)I") = some 5 := by decide +kernel
theorem pdN_21 : Option.map (fun d => d.parameters.length) (parseMethodDescriptor "(IIJ)I") = some 3 := by decide +kernel
theorem pdN_22 : Option.map (fun d => d.parameters.length) (parseMethodDescriptor "(IJ)I") = some 2 := by decide +kernel
theorem pdN_23 : Option.map (fun d => d.parameters.length) (parseMethodDescriptor "(IJI)I") = some 3 := by decide +kernel
theorem pdN_24 : Option.map (fun d => d.parameters.length) (parseMethodDescriptor "(J)[I") = some 1 := by decide +kernel
theorem pdN_25 : Option.map (fun d => d.parameters.length) (parseMethodDescriptor "(ZZ)Z") = some 2 := by decide +kernel
theorem pdN_26 : Option.map (fun d => d.parameters.length) (parseMethodDescriptor "(IJJJ)I") = some 4 := by decide +kernel
theorem pdN_27 : Option.map (fun d => d.parameters.length) (parseMethodDescriptor "(IIII)I") = some 4 := by decide +kernel
theorem pdN_28 : Option.map (fun d => d.parameters.length) (parseMethodDescriptor "(IIIII)I") = some 5 := by decide +kernel
theorem pdN_29 : Option.map (fun d => d.parameters.length) (parseMethodDescriptor "(I)Ljava/lang/String;") = some 1 := by decide +kernel
theorem pdN_30 : Option.map (fun d => d.parameters.length) (parseMethodDescriptor "(II)Ljava/lang/String;") = some 2 := by decide +kernel
theorem pdN_31 : Option.map (fun d => d.parameters.length) (parseMethodDescriptor "(III)Ljava/lang/String;") = some 3 := by decide +kernel
theorem pdN_32 : Option.map (fun d => d.parameters.length) (parseMethodDescriptor "()Z") = some 0 := by decide +kernel
theorem pdN_33 : Option.map (fun d => d.parameters.length) (parseMethodDescriptor "([BI)[B") = some 2 := by decide +kernel
theorem pdN_34 : Option.map (fun d => d.parameters.length) (parseMethodDescriptor "(C)Z") = some 1 := by decide +kernel
theorem pdN_35 : Option.map (fun d => d.parameters.length) (parseMethodDescriptor "(C)Ljava/lang/AbstractStringBuilder;") = some 1 := by decide +kernel
theorem pdN_36 : Option.map (fun d => d.parameters.length) (parseMethodDescriptor "(JI[B)I") = some 3 := by decide +kernel
theorem pdN_37 : Option.map (fun d => d.parameters.length) (parseMethodDescriptor "(J)Ljava/lang/AbstractStringBuilder;") = some 1 := by decide +kernel
theorem pdN_38 : Option.map (fun d => d.parameters.length) (parseMethodDescriptor "()B") = some 0 := by decide +kernel
theorem pdN_39 : Option.map (fun d => d.parameters.length) (parseMethodDescriptor "(Ljava/lang/String;)V") = some 1 := by decide +kernel
theorem pdN_40 : Option.map (fun d => d.parameters.length) (parseMethodDescriptor "([BIB)V") = some 3 := by decide +kernel
theorem pdN_41 : Option.map (fun d => d.parameters.length) (parseMethodDescriptor "(ILjava/lang/String;)V") = some 2 := by decide +kernel
theorem pdN_42 : Option.map (fun d => d.parameters.length) (parseMethodDescriptor "(Ljava/lang/String;)Ljava/lang/AbstractStringBuilder;") = some 1 := by decide +kernel
theorem pdN_43 : Option.map (fun d => d.parameters.length) (parseMethodDescriptor "(II)V") = some 2 := by decide +kernel
theorem pdN_44 : Option.map (fun d => d.parameters.length) (parseMethodDescriptor "([BII)[B") = some 3 := by decide +kernel
theorem pdN_45 : Option.map (fun d => d.parameters.length) (parseMethodDescriptor "()[B") = some 0 := by decide +kernel
theorem pdN_46 : Option.map (fun d => d.parameters.length) (parseMethodDescriptor "(Ljava/lang/AbstractStringBuilder;Ljava/lang/Void;)V") = some 2 := by decide +kernel
theorem pdN_47 : Option.map (fun d => d.parameters.length) (parseMethodDescriptor "(Ljava/lang/StringBuilder;)V") = some 1 := by decide +kernel
theorem pdN_48 : Option.map (fun d => d.parameters.length) (parseMethodDescriptor "()Ljava/lang/AbstractStringBuilder;") = some 0 := by decide +kernel
theorem pdN_49 : Option.map (fun d => d.parameters.length) (parseMethodDescriptor "(C)Ljava/lang/StringBuilder;") = some 1 := by decide +kernel
theorem pdN_50 : Option.map (fun d => d.parameters.length) (parseMethodDescriptor "()V") = some 0 := by decide +kernel
theorem pdN_51 : Option.map (fun d => d.parameters.length) (parseMethodDescriptor "()Ljava/lang/StringBuilder;") = some 0 := by decide +kernel
theorem pdN_52 : Option.map (fun d => d.parameters.length) (parseMethodDescriptor "()Ljava/lang/String;") = some 0 := by decide +kernel
theorem pdN_53 : Option.map (fun d => d.parameters.length) (parseMethodDescriptor "([B[B)Z") = some 2 := by decide +kernel
theorem pdN_54 : Option.map (fun d => d.parameters.length) (parseMethodDescriptor "(J)Ljava/lang/String;") = some 1 := by decide +kernel
theorem pdN_55 : Option.map (fun d => d.parameters.length) (parseMethodDescriptor "(Ljava/lang/String;)Ljava/lang/StringBuilder;") = some 1 := by decide +kernel
theorem pdN_56 : Option.map (fun d => d.parameters.length) (parseMethodDescriptor "(J)Ljava/lang/StringBuilder;") = some 1 := by decide +kernel
theorem pdN_57 : Option.map (fun d => d.parameters.length) (parseMethodDescriptor "(Ljava/lang/Object;)Z") = some 1 := by decide +kernel
theorem pdN_58 : Option.map (fun d => d.parameters.length) (parseMethodDescriptor "()J") = some 0 := by decide +kernel
abbrev mathD : List String := ["(II)I", "(JJ)J", "(J)J"]
theorem nt_m : Jvm.natives.all (fun r => !(r.cls == "java/lang/Math") || !(mathD.contains r.desc)) = true := by decide +kernel
theorem pfM {x : MethodName} (hc : x.cls = "java/lang/Math") (hd : mathD.contains x.desc = true) : plainFor x = true := by
  unfold plainFor
  have h : (NativeRow.find? Jvm.natives x.cls x.name x.desc).isNone = true := by
    unfold NativeRow.find?
    rw [Option.isNone_iff_eq_none, List.find?_eq_none]
    intro r hr hb
    have hb : ((r.name == x.name && r.cls == x.cls) && r.desc == x.desc) = true := hb
    have h1 : (!(r.cls == "java/lang/Math") || !(mathD.contains r.desc)) = true := List.all_eq_true.mp nt_m r hr
    rw [Bool.and_eq_true, Bool.and_eq_true] at hb
    have e2 := eq_of_beq hb.1.2
    have e3 := eq_of_beq hb.2
    rw [e2, e3, hc, hd] at h1
    exact absurd h1 (by decide)
  rw [h]
  exact Bool.or_true _
theorem mS1 {l : List Cond} (a : Nat) (hs : List.Sublist l (List.drop a tables_1_1)) (g : l.all goodWord = true) : ∀ w : Cond, w ∈ l → w ∈ BW := fun w h9 => by
  have h := (hs.trans (List.drop_sublist a tables_1_1)).subset h9
  exact lBW (List.mem_append_right _ (List.mem_append_left _ h)) (List.all_eq_true.mp g w h9)
theorem mS2 {l : List Cond} (a : Nat) (hs : List.Sublist l (List.drop a tables_1_2)) (g : l.all goodWord = true) : ∀ w : Cond, w ∈ l → w ∈ BW := fun w h9 => by
  have h := (hs.trans (List.drop_sublist a tables_1_2)).subset h9
  exact lBW (List.mem_append_right _ (List.mem_append_right _ (List.mem_append_left _ h))) (List.all_eq_true.mp g w h9)
theorem mS3 {l : List Cond} (a : Nat) (hs : List.Sublist l (List.drop a tables_1_3)) (g : l.all goodWord = true) : ∀ w : Cond, w ∈ l → w ∈ BW := fun w h9 => by
  have h := (hs.trans (List.drop_sublist a tables_1_3)).subset h9
  exact lBW (List.mem_append_right _ (List.mem_append_right _ (List.mem_append_right _ (List.mem_append_left _ h)))) (List.all_eq_true.mp g w h9)
theorem mS4 {l : List Cond} (a : Nat) (hs : List.Sublist l (List.drop a tables_1_4)) (g : l.all goodWord = true) : ∀ w : Cond, w ∈ l → w ∈ BW := fun w h9 => by
  have h := (hs.trans (List.drop_sublist a tables_1_4)).subset h9
  exact lBW (List.mem_append_right _ (List.mem_append_right _ (List.mem_append_right _ (List.mem_append_right _ (List.mem_append_left _ h))))) (List.all_eq_true.mp g w h9)
theorem mS5 {l : List Cond} (a : Nat) (hs : List.Sublist l (List.drop a tables_1_5)) (g : l.all goodWord = true) : ∀ w : Cond, w ∈ l → w ∈ BW := fun w h9 => by
  have h := (hs.trans (List.drop_sublist a tables_1_5)).subset h9
  exact lBW (List.mem_append_right _ (List.mem_append_right _ (List.mem_append_right _ (List.mem_append_right _ (List.mem_append_right _ (List.mem_append_left _ h)))))) (List.all_eq_true.mp g w h9)
theorem mS6 {l : List Cond} (a : Nat) (hs : List.Sublist l (List.drop a tables_1_6)) (g : l.all goodWord = true) : ∀ w : Cond, w ∈ l → w ∈ BW := fun w h9 => by
  have h := (hs.trans (List.drop_sublist a tables_1_6)).subset h9
  exact lBW (List.mem_append_right _ (List.mem_append_right _ (List.mem_append_right _ (List.mem_append_right _ (List.mem_append_right _ (List.mem_append_right _ (List.mem_append_left _ h))))))) (List.all_eq_true.mp g w h9)
theorem mS7 {l : List Cond} (a : Nat) (hs : List.Sublist l (List.drop a tables_1_7)) (g : l.all goodWord = true) : ∀ w : Cond, w ∈ l → w ∈ BW := fun w h9 => by
  have h := (hs.trans (List.drop_sublist a tables_1_7)).subset h9
  exact lBW (List.mem_append_right _ (List.mem_append_right _ (List.mem_append_right _ (List.mem_append_right _ (List.mem_append_right _ (List.mem_append_right _ (List.mem_append_right _ h))))))) (List.all_eq_true.mp g w h9)
theorem mJ1 {w : Cond} (i : Nat) (h9 : tables_1_1[i]? = some w) : w ∈ lw_tbl := by
  have h := List.mem_of_getElem? h9
  exact List.mem_append_right _ (List.mem_append_left _ h)
theorem mK1 {l : List Cond} (is : List Nat) (h : l = is.filterMap (fun i => tables_1_1[i]?)) : ∀ w ∈ l, w ∈ lw_tbl := by
  intro w hw
  rw [h] at hw
  obtain ⟨i, -, hi⟩ := List.mem_filterMap.mp hw
  exact mJ1 i hi
theorem mJ2 {w : Cond} (i : Nat) (h9 : tables_1_2[i]? = some w) : w ∈ lw_tbl := by
  have h := List.mem_of_getElem? h9
  exact List.mem_append_right _ (List.mem_append_right _ (List.mem_append_left _ h))
theorem mK2 {l : List Cond} (is : List Nat) (h : l = is.filterMap (fun i => tables_1_2[i]?)) : ∀ w ∈ l, w ∈ lw_tbl := by
  intro w hw
  rw [h] at hw
  obtain ⟨i, -, hi⟩ := List.mem_filterMap.mp hw
  exact mJ2 i hi
theorem mJ3 {w : Cond} (i : Nat) (h9 : tables_1_3[i]? = some w) : w ∈ lw_tbl := by
  have h := List.mem_of_getElem? h9
  exact List.mem_append_right _ (List.mem_append_right _ (List.mem_append_right _ (List.mem_append_left _ h)))
theorem mK3 {l : List Cond} (is : List Nat) (h : l = is.filterMap (fun i => tables_1_3[i]?)) : ∀ w ∈ l, w ∈ lw_tbl := by
  intro w hw
  rw [h] at hw
  obtain ⟨i, -, hi⟩ := List.mem_filterMap.mp hw
  exact mJ3 i hi
theorem mJ4 {w : Cond} (i : Nat) (h9 : tables_1_4[i]? = some w) : w ∈ lw_tbl := by
  have h := List.mem_of_getElem? h9
  exact List.mem_append_right _ (List.mem_append_right _ (List.mem_append_right _ (List.mem_append_right _ (List.mem_append_left _ h))))
theorem mK4 {l : List Cond} (is : List Nat) (h : l = is.filterMap (fun i => tables_1_4[i]?)) : ∀ w ∈ l, w ∈ lw_tbl := by
  intro w hw
  rw [h] at hw
  obtain ⟨i, -, hi⟩ := List.mem_filterMap.mp hw
  exact mJ4 i hi
theorem mJ5 {w : Cond} (i : Nat) (h9 : tables_1_5[i]? = some w) : w ∈ lw_tbl := by
  have h := List.mem_of_getElem? h9
  exact List.mem_append_right _ (List.mem_append_right _ (List.mem_append_right _ (List.mem_append_right _ (List.mem_append_right _ (List.mem_append_left _ h)))))
theorem mK5 {l : List Cond} (is : List Nat) (h : l = is.filterMap (fun i => tables_1_5[i]?)) : ∀ w ∈ l, w ∈ lw_tbl := by
  intro w hw
  rw [h] at hw
  obtain ⟨i, -, hi⟩ := List.mem_filterMap.mp hw
  exact mJ5 i hi
theorem mJ6 {w : Cond} (i : Nat) (h9 : tables_1_6[i]? = some w) : w ∈ lw_tbl := by
  have h := List.mem_of_getElem? h9
  exact List.mem_append_right _ (List.mem_append_right _ (List.mem_append_right _ (List.mem_append_right _ (List.mem_append_right _ (List.mem_append_right _ (List.mem_append_left _ h))))))
theorem mK6 {l : List Cond} (is : List Nat) (h : l = is.filterMap (fun i => tables_1_6[i]?)) : ∀ w ∈ l, w ∈ lw_tbl := by
  intro w hw
  rw [h] at hw
  obtain ⟨i, -, hi⟩ := List.mem_filterMap.mp hw
  exact mJ6 i hi
theorem mJ7 {w : Cond} (i : Nat) (h9 : tables_1_7[i]? = some w) : w ∈ lw_tbl := by
  have h := List.mem_of_getElem? h9
  exact List.mem_append_right _ (List.mem_append_right _ (List.mem_append_right _ (List.mem_append_right _ (List.mem_append_right _ (List.mem_append_right _ (List.mem_append_right _ h))))))
theorem mK7 {l : List Cond} (is : List Nat) (h : l = is.filterMap (fun i => tables_1_7[i]?)) : ∀ w ∈ l, w ∈ lw_tbl := by
  intro w hw
  rw [h] at hw
  obtain ⟨i, -, hi⟩ := List.mem_filterMap.mp hw
  exact mJ7 i hi
theorem bw0 : Cond.selects RX0 yX0_isSoundAlone yX0_isSoundAlone ∈ BW := mBW 0 rfl (by decide +kernel)
theorem bw1 : Cond.selects RX0 yX0_isItsParts yX0_isItsParts ∈ BW := mBW 1 rfl (by decide +kernel)
theorem bw2 : Cond.selects RX0 yX0_isItsDateAndTime yX0_isItsDateAndTime ∈ BW := mBW 2 rfl (by decide +kernel)
theorem bw3 : Cond.selects RX0 yX0_yearDay yX0_yearDay ∈ BW := mBW 3 rfl (by decide +kernel)
theorem bw4 : Cond.selects RX0 yX0_isBackFromNano yX0_isBackFromNano ∈ BW := mBW 4 rfl (by decide +kernel)
theorem bw5 : Cond.selects RX0 yX0_isLineLess yX0_isLineLess ∈ BW := mBW 5 rfl (by decide +kernel)
theorem bw6 : Cond.selects RX0 yX0_isBackFromDay yX0_isBackFromDay ∈ BW := mBW 6 rfl (by decide +kernel)
theorem bw7 : Cond.selects RX0 yX0_isBackFromCycle yX0_isBackFromCycle ∈ BW := mBW 7 rfl (by decide +kernel)
theorem bw8 : Cond.selects RX0 yX0_isSoundPair yX0_isSoundPair ∈ BW := mBW 8 rfl (by decide +kernel)
theorem bw9 : Cond.selects RX0 yX0_order yX0_order ∈ BW := mBW 9 rfl (by decide +kernel)
theorem bw10 : Cond.selects RX0 yX0_isSameLine yX0_isSameLine ∈ BW := mBW 10 rfl (by decide +kernel)
theorem bw11 : Cond.selects RX0 yX0_gapInUnits yX0_gapInUnits ∈ BW := mBW 11 rfl (by decide +kernel)
theorem bw13 : Cond.selects RX0 yX0_houseNumber yX0_houseNumber ∈ BW := mBW 13 rfl (by decide +kernel)
theorem bw14 : Cond.selects RX0 yX0_countRepeated yX0_countRepeated ∈ BW := mBW 14 rfl (by decide +kernel)
theorem bw15 : Cond.selects RX0 yX0_isRepeated yX0_isRepeated ∈ BW := mBW 15 rfl (by decide +kernel)
theorem bw16 : Cond.selects RX0 yX0_outermost yX0_outermost ∈ BW := mBW 16 rfl (by decide +kernel)
theorem bw18 : Cond.selects RX0 yX0_handTime yX0_handTime ∈ BW := mBW 18 rfl (by decide +kernel)
theorem bw19 : Cond.selects RX0 yX0_becomeDate yX0_becomeDate ∈ BW := mBW 19 rfl (by decide +kernel)
theorem bw20 : Cond.selects RX0 yX0_refuse yX0_refuse ∈ BW := mBW 20 rfl (by decide +kernel)
theorem bw21 : Cond.selects RX0 yX0_becomeDay yX0_becomeDay ∈ BW := mBW 21 rfl (by decide +kernel)
theorem bw22 : Cond.selects RX0 yX0_becomeAs yX0_becomeAs ∈ BW := mBW 22 rfl (by decide +kernel)
theorem bw23 : Cond.selects RX0 yX0_becomeMonth yX0_becomeMonth ∈ BW := mBW 23 rfl (by decide +kernel)
theorem bw24 : Cond.selects RX0 yX0_goMonths yX0_goMonths ∈ BW := mBW 24 rfl (by decide +kernel)
theorem bw25 : Cond.selects RX0 yX0_monthCount yX0_monthCount ∈ BW := mBW 25 rfl (by decide +kernel)
theorem bw26 : Cond.selects RX0 yX0_goUnits yX0_goUnits ∈ BW := mBW 26 rfl (by decide +kernel)
theorem bw27 : Cond.selects RX0 yX0_goLine yX0_goLine ∈ BW := mBW 27 rfl (by decide +kernel)
theorem bw32 : Cond.selects RX0 yX0_wholeMonths yX0_wholeMonths ∈ BW := mBW 32 rfl (by decide +kernel)
theorem bw33 : Cond.selects RX2 yX2_refuses yX2_refuses ∈ BW := mBW 33 rfl (by decide +kernel)
theorem bw34 : Cond.selects RX2 yX2_refuse yX2_refuse ∈ BW := mBW 34 rfl (by decide +kernel)
theorem bw35 : Cond.selects RX2 yX2_handTime yX2_handTime ∈ BW := mBW 35 rfl (by decide +kernel)
theorem bw36 : Cond.selects RX2 yX2_become yX2_become ∈ BW := mBW 36 rfl (by decide +kernel)
theorem bw37 : Cond.selects RX2 yX2_weekDayNow yX2_weekDayNow ∈ BW := mBW 37 rfl (by decide +kernel)
theorem bw38 : Cond.selects RX2 yX2_dayNow yX2_dayNow ∈ BW := mBW 38 rfl (by decide +kernel)
theorem bw39 : Cond.selects RX2 yX2_becomeDay yX2_becomeDay ∈ BW := mBW 39 rfl (by decide +kernel)
theorem bw40 : Cond.selects RX2 yX2_becomeMonth yX2_becomeMonth ∈ BW := mBW 40 rfl (by decide +kernel)
theorem bw41 : Cond.selects RX2 yX2_withPart yX2_withPart ∈ BW := mBW 41 rfl (by decide +kernel)
theorem bw42 : Cond.selects RX2 yX2_onMonths yX2_onMonths ∈ BW := mBW 42 rfl (by decide +kernel)
theorem bw43 : Cond.selects RX2 yX2_onLine yX2_onLine ∈ BW := mBW 43 rfl (by decide +kernel)
theorem bw44 : Cond.selects RX2 yX2_inYearNow yX2_inYearNow ∈ BW := mBW 44 rfl (by decide +kernel)
theorem bw45 : Cond.selects RX2 yX2_part yX2_part ∈ BW := mBW 45 rfl (by decide +kernel)
theorem bw48 : Cond.selects RX2 yX2_order yX2_order ∈ BW := mBW 48 rfl (by decide +kernel)
theorem bw51 : Cond.selects RX2 yX2_monthsOn yX2_monthsOn ∈ BW := mBW 51 rfl (by decide +kernel)
theorem bw53 : Cond.selects RX2 yX2_houseNow yX2_houseNow ∈ BW := mBW 53 rfl (by decide +kernel)
theorem bw54 : Cond.selects RX2 yX2_likeOnes yX2_likeOnes ∈ BW := mBW 54 rfl (by decide +kernel)
theorem bw55 : Cond.selects RX2 yX2_outer yX2_outer ∈ BW := mBW 55 rfl (by decide +kernel)
set_option maxRecDepth 10000 in
theorem ws1_bw57 : ∀ w : Cond, w ∈ [Cond.initialized RX0, Cond.initialized RJ9, Cond.initialized RX2, Cond.initialized "java/lang/IllegalArgumentException", Cond.initialized "java/lang/IndexOutOfBoundsException"] → w ∈ BW := mS1 1 (List.Sublist.cons₂ _ (List.Sublist.cons₂ _ (List.Sublist.cons₂ _ (List.Sublist.cons _ (List.Sublist.cons _ (List.Sublist.cons _ (List.Sublist.cons _ (List.Sublist.cons₂ _ (List.Sublist.cons₂ _ (List.nil_sublist _)))))))))) (by decide +kernel)
theorem bw57 : Cond.initialized RX0 ∈ BW := ws1_bw57 _ mm0
theorem bw58 : Cond.initialized RJ9 ∈ BW := ws1_bw57 _ mm1
theorem bw59 : Cond.initialized RX2 ∈ BW := ws1_bw57 _ mm2
theorem bw64 : Cond.initialized "java/lang/IllegalArgumentException" ∈ BW := ws1_bw57 _ mm3
theorem bw65 : Cond.initialized "java/lang/IndexOutOfBoundsException" ∈ BW := ws1_bw57 _ mm4
set_option maxRecDepth 10000 in
theorem ws1_bw86 : ∀ w : Cond, w ∈ [Cond.methodLink RX0 26 yX0_firstDayOf, Cond.static yX0_firstDayOf, Cond.code yX0_firstDayOf cX0_firstDayOf 3 (some .long), Cond.methodLink RX0 265 yJ9_floorDiv_7cf53, Cond.static yJ9_floorDiv_7cf53, Cond.code yJ9_floorDiv_7cf53 cJ9_floorDiv_7cf53 3 (some .int), Cond.constantLong RX0 267 (365), Cond.constantLong RX0 269 (719528), Cond.fieldLink RX0 9 "Daytimepair" "years" "[I", Cond.fieldLink RX0 13 "Daytimepair" "months" "[I", Cond.fieldLink RX0 16 "Daytimepair" "monthDays" "[I", Cond.fieldLink RX0 19 "Daytimepair" "days" "[J", Cond.fieldLink RX0 23 "Daytimepair" "nanos" "[J", Cond.fieldLink RX0 35 "Daytimepair" "handHour" "I", Cond.fieldLink RX0 39 "Daytimepair" "handMinute" "I", Cond.fieldLink RX0 42 "Daytimepair" "handSecond" "I", Cond.fieldLink RX0 45 "Daytimepair" "handNano" "I", Cond.fieldLink RX0 218 "Daytimepair" "changes" "I", Cond.fieldLink RX0 212 "Daytimepair" "refusals" "I", Cond.fieldLink RX0 171 "Daytimepair" "knocks" "I", Cond.laysFinal "Daytimepair" "Daytimepair" "years" "[I", Cond.laysFinal "Daytimepair" "Daytimepair" "months" "[I", Cond.laysFinal "Daytimepair" "Daytimepair" "monthDays" "[I", Cond.laysFinal "Daytimepair" "Daytimepair" "days" "[J"] → w ∈ BW := mS1 30 (List.Sublist.cons₂ _ (List.Sublist.cons₂ _ (List.Sublist.cons₂ _ (List.Sublist.cons₂ _ (List.Sublist.cons₂ _ (List.Sublist.cons₂ _ (List.Sublist.cons₂ _ (List.Sublist.cons₂ _ (List.Sublist.cons₂ _ (List.Sublist.cons₂ _ (List.Sublist.cons₂ _ (List.Sublist.cons₂ _ (List.Sublist.cons₂ _ (List.Sublist.cons₂ _ (List.Sublist.cons₂ _ (List.Sublist.cons₂ _ (List.Sublist.cons₂ _ (List.Sublist.cons₂ _ (List.Sublist.cons₂ _ (List.Sublist.cons₂ _ (List.Sublist.cons₂ _ (List.Sublist.cons _ (List.Sublist.cons₂ _ (List.Sublist.cons _ (List.Sublist.cons₂ _ (List.Sublist.cons _ (List.Sublist.cons₂ _ (List.nil_sublist _)))))))))))))))))))))))))))) (by decide +kernel)
theorem bw86 : Cond.methodLink RX0 26 yX0_firstDayOf ∈ BW := ws1_bw86 _ mm0
theorem bw87 : Cond.static yX0_firstDayOf ∈ BW := ws1_bw86 _ mm1
theorem bw88 : Cond.code yX0_firstDayOf cX0_firstDayOf 3 (some .long) ∈ BW := ws1_bw86 _ mm2
theorem bw89 : Cond.methodLink RX0 265 yJ9_floorDiv_7cf53 ∈ BW := ws1_bw86 _ mm3
theorem bw90 : Cond.static yJ9_floorDiv_7cf53 ∈ BW := ws1_bw86 _ mm4
theorem bw91 : Cond.code yJ9_floorDiv_7cf53 cJ9_floorDiv_7cf53 3 (some .int) ∈ BW := ws1_bw86 _ mm5
theorem bw92 : Cond.constantLong RX0 267 (365) ∈ BW := ws1_bw86 _ mm6
theorem bw93 : Cond.constantLong RX0 269 (719528) ∈ BW := ws1_bw86 _ mm7
theorem bw94 : Cond.fieldLink RX0 9 "Daytimepair" "years" "[I" ∈ BW := ws1_bw86 _ mm8
theorem bw95 : Cond.fieldLink RX0 13 "Daytimepair" "months" "[I" ∈ BW := ws1_bw86 _ mm9
theorem bw96 : Cond.fieldLink RX0 16 "Daytimepair" "monthDays" "[I" ∈ BW := ws1_bw86 _ mm10
theorem bw97 : Cond.fieldLink RX0 19 "Daytimepair" "days" "[J" ∈ BW := ws1_bw86 _ mm11
theorem bw98 : Cond.fieldLink RX0 23 "Daytimepair" "nanos" "[J" ∈ BW := ws1_bw86 _ mm12
theorem bw99 : Cond.fieldLink RX0 35 "Daytimepair" "handHour" "I" ∈ BW := ws1_bw86 _ mm13
theorem bw100 : Cond.fieldLink RX0 39 "Daytimepair" "handMinute" "I" ∈ BW := ws1_bw86 _ mm14
theorem bw101 : Cond.fieldLink RX0 42 "Daytimepair" "handSecond" "I" ∈ BW := ws1_bw86 _ mm15
theorem bw102 : Cond.fieldLink RX0 45 "Daytimepair" "handNano" "I" ∈ BW := ws1_bw86 _ mm16
theorem bw103 : Cond.fieldLink RX0 218 "Daytimepair" "changes" "I" ∈ BW := ws1_bw86 _ mm17
theorem bw104 : Cond.fieldLink RX0 212 "Daytimepair" "refusals" "I" ∈ BW := ws1_bw86 _ mm18
theorem bw105 : Cond.fieldLink RX0 171 "Daytimepair" "knocks" "I" ∈ BW := ws1_bw86 _ mm19
theorem bw106 : Cond.laysFinal "Daytimepair" "Daytimepair" "years" "[I" ∈ BW := ws1_bw86 _ mm20
theorem bw108 : Cond.laysFinal "Daytimepair" "Daytimepair" "months" "[I" ∈ BW := ws1_bw86 _ mm21
theorem bw110 : Cond.laysFinal "Daytimepair" "Daytimepair" "monthDays" "[I" ∈ BW := ws1_bw86 _ mm22
theorem bw112 : Cond.laysFinal "Daytimepair" "Daytimepair" "days" "[J" ∈ BW := ws1_bw86 _ mm23
set_option maxRecDepth 10000 in
theorem ws1_bw114 : ∀ w : Cond, w ∈ [Cond.laysFinal "Daytimepair" "Daytimepair" "nanos" "[J", Cond.lays "Daytimepair" "Daytimepair" "handHour" "I", Cond.lays "Daytimepair" "Daytimepair" "handMinute" "I", Cond.lays "Daytimepair" "Daytimepair" "handSecond" "I", Cond.lays "Daytimepair" "Daytimepair" "handNano" "I", Cond.lays "Daytimepair" "Daytimepair" "changes" "I", Cond.lays "Daytimepair" "Daytimepair" "refusals" "I", Cond.lays "Daytimepair" "Daytimepair" "knocks" "I", Cond.arrayClass .int, Cond.methodLink RX0 174 yX0_isSoundAlone, Cond.instanceMethod yX0_isSoundAlone, Cond.code yX0_isSoundAlone cX0_isSoundAlone 2 (some .boolean), Cond.methodLink RX0 161 yX0_isItsParts, Cond.instanceMethod yX0_isItsParts, Cond.code yX0_isItsParts cX0_isItsParts 6 (some .boolean), Cond.methodLink RX0 81 yX0_hourOf, Cond.static yX0_hourOf, Cond.code yX0_hourOf cX0_hourOf 2 (some .int), Cond.constantLong RX0 85 (3600000000000), Cond.methodLink RX0 87 yX0_minuteOf, Cond.static yX0_minuteOf, Cond.code yX0_minuteOf cX0_minuteOf 2 (some .int), Cond.constantLong RX0 90 (60000000000), Cond.methodLink RX0 92 yX0_secondOf] → w ∈ BW := mS1 58 (List.Sublist.cons₂ _ (List.Sublist.cons _ (List.Sublist.cons₂ _ (List.Sublist.cons _ (List.Sublist.cons₂ _ (List.Sublist.cons _ (List.Sublist.cons₂ _ (List.Sublist.cons _ (List.Sublist.cons₂ _ (List.Sublist.cons _ (List.Sublist.cons₂ _ (List.Sublist.cons _ (List.Sublist.cons₂ _ (List.Sublist.cons _ (List.Sublist.cons₂ _ (List.Sublist.cons _ (List.Sublist.cons _ (List.Sublist.cons₂ _ (List.Sublist.cons _ (List.Sublist.cons _ (List.Sublist.cons _ (List.Sublist.cons _ (List.Sublist.cons _ (List.Sublist.cons _ (List.Sublist.cons _ (List.Sublist.cons _ (List.Sublist.cons _ (List.Sublist.cons₂ _ (List.Sublist.cons _ (List.Sublist.cons₂ _ (List.Sublist.cons₂ _ (List.Sublist.cons₂ _ (List.Sublist.cons _ (List.Sublist.cons₂ _ (List.Sublist.cons₂ _ (List.Sublist.cons₂ _ (List.Sublist.cons₂ _ (List.Sublist.cons₂ _ (List.Sublist.cons₂ _ (List.Sublist.cons₂ _ (List.Sublist.cons₂ _ (List.Sublist.cons₂ _ (List.Sublist.cons₂ _ (List.Sublist.cons₂ _ (List.nil_sublist _))))))))))))))))))))))))))))))))))))))))))))) (by decide +kernel)
theorem bw114 : Cond.laysFinal "Daytimepair" "Daytimepair" "nanos" "[J" ∈ BW := ws1_bw114 _ mm0
theorem bw116 : Cond.lays "Daytimepair" "Daytimepair" "handHour" "I" ∈ BW := ws1_bw114 _ mm1
theorem bw118 : Cond.lays "Daytimepair" "Daytimepair" "handMinute" "I" ∈ BW := ws1_bw114 _ mm2
theorem bw120 : Cond.lays "Daytimepair" "Daytimepair" "handSecond" "I" ∈ BW := ws1_bw114 _ mm3
theorem bw122 : Cond.lays "Daytimepair" "Daytimepair" "handNano" "I" ∈ BW := ws1_bw114 _ mm4
theorem bw124 : Cond.lays "Daytimepair" "Daytimepair" "changes" "I" ∈ BW := ws1_bw114 _ mm5
theorem bw126 : Cond.lays "Daytimepair" "Daytimepair" "refusals" "I" ∈ BW := ws1_bw114 _ mm6
theorem bw128 : Cond.lays "Daytimepair" "Daytimepair" "knocks" "I" ∈ BW := ws1_bw114 _ mm7
theorem bw131 : Cond.arrayClass .int ∈ BW := ws1_bw114 _ mm8
theorem bw141 : Cond.methodLink RX0 174 yX0_isSoundAlone ∈ BW := ws1_bw114 _ mm9
theorem bw143 : Cond.instanceMethod yX0_isSoundAlone ∈ BW := ws1_bw114 _ mm10
theorem bw144 : Cond.code yX0_isSoundAlone cX0_isSoundAlone 2 (some .boolean) ∈ BW := ws1_bw114 _ mm11
theorem bw145 : Cond.methodLink RX0 161 yX0_isItsParts ∈ BW := ws1_bw114 _ mm12
theorem bw147 : Cond.instanceMethod yX0_isItsParts ∈ BW := ws1_bw114 _ mm13
theorem bw148 : Cond.code yX0_isItsParts cX0_isItsParts 6 (some .boolean) ∈ BW := ws1_bw114 _ mm14
theorem bw149 : Cond.methodLink RX0 81 yX0_hourOf ∈ BW := ws1_bw114 _ mm15
theorem bw150 : Cond.static yX0_hourOf ∈ BW := ws1_bw114 _ mm16
theorem bw151 : Cond.code yX0_hourOf cX0_hourOf 2 (some .int) ∈ BW := ws1_bw114 _ mm17
theorem bw152 : Cond.constantLong RX0 85 (3600000000000) ∈ BW := ws1_bw114 _ mm18
theorem bw153 : Cond.methodLink RX0 87 yX0_minuteOf ∈ BW := ws1_bw114 _ mm19
theorem bw154 : Cond.static yX0_minuteOf ∈ BW := ws1_bw114 _ mm20
theorem bw155 : Cond.code yX0_minuteOf cX0_minuteOf 2 (some .int) ∈ BW := ws1_bw114 _ mm21
theorem bw156 : Cond.constantLong RX0 90 (60000000000) ∈ BW := ws1_bw114 _ mm22
theorem bw157 : Cond.methodLink RX0 92 yX0_secondOf ∈ BW := ws1_bw114 _ mm23
set_option maxRecDepth 10000 in
theorem ws1_bw158 : ∀ w : Cond, w ∈ [Cond.static yX0_secondOf, Cond.code yX0_secondOf cX0_secondOf 2 (some .int), Cond.constantLong RX0 95 (1000000000), Cond.methodLink RX0 97 yX0_nanoOfSecond, Cond.static yX0_nanoOfSecond, Cond.code yX0_nanoOfSecond cX0_nanoOfSecond 2 (some .int), Cond.methodLink RX0 277 yX0_timeOf, Cond.static yX0_timeOf, Cond.code yX0_timeOf cX0_timeOf 4 (some .long), Cond.methodLink RX0 215 yX0_dayOf, Cond.static yX0_dayOf, Cond.code yX0_dayOf cX0_dayOf 3 (some .long), Cond.methodLink RX0 231 yX0_daysAhead, Cond.static yX0_daysAhead, Cond.code yX0_daysAhead cX0_daysAhead 3 (some .int), Cond.fieldLink RX0 262 "Daytimepair" "DAYS_AHEAD" "[I", Cond.methodLink RX0 140 yX0_isLeapYear, Cond.static yX0_isLeapYear, Cond.code yX0_isLeapYear cX0_isLeapYear 1 (some .boolean), Cond.methodLink RX0 158 yX0_isItsDateAndTime, Cond.instanceMethod yX0_isItsDateAndTime, Cond.code yX0_isItsDateAndTime cX0_isItsDateAndTime 6 (some .boolean), Cond.methodLink RX0 126 yX0_yearDay, Cond.instanceMethod yX0_yearDay] → w ∈ BW := mS1 102 (List.Sublist.cons₂ _ (List.Sublist.cons₂ _ (List.Sublist.cons₂ _ (List.Sublist.cons₂ _ (List.Sublist.cons₂ _ (List.Sublist.cons₂ _ (List.Sublist.cons₂ _ (List.Sublist.cons₂ _ (List.Sublist.cons₂ _ (List.Sublist.cons₂ _ (List.Sublist.cons₂ _ (List.Sublist.cons₂ _ (List.Sublist.cons₂ _ (List.Sublist.cons₂ _ (List.Sublist.cons₂ _ (List.Sublist.cons₂ _ (List.Sublist.cons _ (List.Sublist.cons₂ _ (List.Sublist.cons₂ _ (List.Sublist.cons₂ _ (List.Sublist.cons₂ _ (List.Sublist.cons _ (List.Sublist.cons₂ _ (List.Sublist.cons₂ _ (List.Sublist.cons₂ _ (List.Sublist.cons _ (List.Sublist.cons₂ _ (List.nil_sublist _)))))))))))))))))))))))))))) (by decide +kernel)
theorem bw158 : Cond.static yX0_secondOf ∈ BW := ws1_bw158 _ mm0
theorem bw159 : Cond.code yX0_secondOf cX0_secondOf 2 (some .int) ∈ BW := ws1_bw158 _ mm1
theorem bw160 : Cond.constantLong RX0 95 (1000000000) ∈ BW := ws1_bw158 _ mm2
theorem bw161 : Cond.methodLink RX0 97 yX0_nanoOfSecond ∈ BW := ws1_bw158 _ mm3
theorem bw162 : Cond.static yX0_nanoOfSecond ∈ BW := ws1_bw158 _ mm4
theorem bw163 : Cond.code yX0_nanoOfSecond cX0_nanoOfSecond 2 (some .int) ∈ BW := ws1_bw158 _ mm5
theorem bw164 : Cond.methodLink RX0 277 yX0_timeOf ∈ BW := ws1_bw158 _ mm6
theorem bw165 : Cond.static yX0_timeOf ∈ BW := ws1_bw158 _ mm7
theorem bw166 : Cond.code yX0_timeOf cX0_timeOf 4 (some .long) ∈ BW := ws1_bw158 _ mm8
theorem bw167 : Cond.methodLink RX0 215 yX0_dayOf ∈ BW := ws1_bw158 _ mm9
theorem bw168 : Cond.static yX0_dayOf ∈ BW := ws1_bw158 _ mm10
theorem bw169 : Cond.code yX0_dayOf cX0_dayOf 3 (some .long) ∈ BW := ws1_bw158 _ mm11
theorem bw170 : Cond.methodLink RX0 231 yX0_daysAhead ∈ BW := ws1_bw158 _ mm12
theorem bw171 : Cond.static yX0_daysAhead ∈ BW := ws1_bw158 _ mm13
theorem bw172 : Cond.code yX0_daysAhead cX0_daysAhead 3 (some .int) ∈ BW := ws1_bw158 _ mm14
theorem bw173 : Cond.fieldLink RX0 262 "Daytimepair" "DAYS_AHEAD" "[I" ∈ BW := ws1_bw158 _ mm15
theorem bw175 : Cond.methodLink RX0 140 yX0_isLeapYear ∈ BW := ws1_bw158 _ mm16
theorem bw176 : Cond.static yX0_isLeapYear ∈ BW := ws1_bw158 _ mm17
theorem bw177 : Cond.code yX0_isLeapYear cX0_isLeapYear 1 (some .boolean) ∈ BW := ws1_bw158 _ mm18
theorem bw178 : Cond.methodLink RX0 158 yX0_isItsDateAndTime ∈ BW := ws1_bw158 _ mm19
theorem bw180 : Cond.instanceMethod yX0_isItsDateAndTime ∈ BW := ws1_bw158 _ mm20
theorem bw181 : Cond.code yX0_isItsDateAndTime cX0_isItsDateAndTime 6 (some .boolean) ∈ BW := ws1_bw158 _ mm21
theorem bw182 : Cond.methodLink RX0 126 yX0_yearDay ∈ BW := ws1_bw158 _ mm22
theorem bw184 : Cond.instanceMethod yX0_yearDay ∈ BW := ws1_bw158 _ mm23
set_option maxRecDepth 10000 in
theorem ws1_bw185 : ∀ w : Cond, w ∈ [Cond.code yX0_yearDay cX0_yearDay 2 (some .int), Cond.methodLink RX0 344 yX0_isBackFromNano, Cond.instanceMethod yX0_isBackFromNano, Cond.code yX0_isBackFromNano cX0_isBackFromNano 6 (some .boolean), Cond.constantLong RX0 257 (86400000000000), Cond.methodLink RX0 242 yJ9_floorDiv_f86c9, Cond.static yJ9_floorDiv_f86c9, Cond.code yJ9_floorDiv_f86c9 cJ9_floorDiv_f86c9 6 (some .long), Cond.constantLong RX0 223 (2932896), Cond.methodLink RX0 249 yJ9_floorMod_f86c9, Cond.static yJ9_floorMod_f86c9, Cond.code yJ9_floorMod_f86c9 cJ9_floorMod_f86c9 6 (some .long), Cond.methodLink RX0 357 yX0_isLineLess, Cond.instanceMethod yX0_isLineLess, Cond.code yX0_isLineLess cX0_isLineLess 10 (some .boolean), Cond.methodLink RX0 347 yX0_isBackFromDay, Cond.instanceMethod yX0_isBackFromDay, Cond.code yX0_isBackFromDay cX0_isBackFromDay 2 (some .boolean), Cond.methodLink RX0 350 yX0_isBackFromCycle, Cond.instanceMethod yX0_isBackFromCycle, Cond.code yX0_isBackFromCycle cX0_isBackFromCycle 4 (some .boolean), Cond.methodLink RX0 132 yX0_monthLength, Cond.static yX0_monthLength, Cond.code yX0_monthLength cX0_monthLength 2 (some .int)] → w ∈ BW := mS1 129 (List.Sublist.cons₂ _ (List.Sublist.cons₂ _ (List.Sublist.cons _ (List.Sublist.cons₂ _ (List.Sublist.cons₂ _ (List.Sublist.cons₂ _ (List.Sublist.cons₂ _ (List.Sublist.cons₂ _ (List.Sublist.cons₂ _ (List.Sublist.cons₂ _ (List.Sublist.cons₂ _ (List.Sublist.cons₂ _ (List.Sublist.cons₂ _ (List.Sublist.cons₂ _ (List.Sublist.cons _ (List.Sublist.cons₂ _ (List.Sublist.cons₂ _ (List.Sublist.cons₂ _ (List.Sublist.cons _ (List.Sublist.cons₂ _ (List.Sublist.cons₂ _ (List.Sublist.cons₂ _ (List.Sublist.cons _ (List.Sublist.cons₂ _ (List.Sublist.cons₂ _ (List.Sublist.cons₂ _ (List.Sublist.cons₂ _ (List.Sublist.cons₂ _ (List.nil_sublist _))))))))))))))))))))))))))))) (by decide +kernel)
theorem bw185 : Cond.code yX0_yearDay cX0_yearDay 2 (some .int) ∈ BW := ws1_bw185 _ mm0
theorem bw186 : Cond.methodLink RX0 344 yX0_isBackFromNano ∈ BW := ws1_bw185 _ mm1
theorem bw188 : Cond.instanceMethod yX0_isBackFromNano ∈ BW := ws1_bw185 _ mm2
theorem bw189 : Cond.code yX0_isBackFromNano cX0_isBackFromNano 6 (some .boolean) ∈ BW := ws1_bw185 _ mm3
theorem bw190 : Cond.constantLong RX0 257 (86400000000000) ∈ BW := ws1_bw185 _ mm4
theorem bw191 : Cond.methodLink RX0 242 yJ9_floorDiv_f86c9 ∈ BW := ws1_bw185 _ mm5
theorem bw192 : Cond.static yJ9_floorDiv_f86c9 ∈ BW := ws1_bw185 _ mm6
theorem bw193 : Cond.code yJ9_floorDiv_f86c9 cJ9_floorDiv_f86c9 6 (some .long) ∈ BW := ws1_bw185 _ mm7
theorem bw194 : Cond.constantLong RX0 223 (2932896) ∈ BW := ws1_bw185 _ mm8
theorem bw195 : Cond.methodLink RX0 249 yJ9_floorMod_f86c9 ∈ BW := ws1_bw185 _ mm9
theorem bw196 : Cond.static yJ9_floorMod_f86c9 ∈ BW := ws1_bw185 _ mm10
theorem bw197 : Cond.code yJ9_floorMod_f86c9 cJ9_floorMod_f86c9 6 (some .long) ∈ BW := ws1_bw185 _ mm11
theorem bw198 : Cond.methodLink RX0 357 yX0_isLineLess ∈ BW := ws1_bw185 _ mm12
theorem bw200 : Cond.instanceMethod yX0_isLineLess ∈ BW := ws1_bw185 _ mm13
theorem bw201 : Cond.code yX0_isLineLess cX0_isLineLess 10 (some .boolean) ∈ BW := ws1_bw185 _ mm14
theorem bw202 : Cond.methodLink RX0 347 yX0_isBackFromDay ∈ BW := ws1_bw185 _ mm15
theorem bw204 : Cond.instanceMethod yX0_isBackFromDay ∈ BW := ws1_bw185 _ mm16
theorem bw205 : Cond.code yX0_isBackFromDay cX0_isBackFromDay 2 (some .boolean) ∈ BW := ws1_bw185 _ mm17
theorem bw206 : Cond.methodLink RX0 350 yX0_isBackFromCycle ∈ BW := ws1_bw185 _ mm18
theorem bw208 : Cond.instanceMethod yX0_isBackFromCycle ∈ BW := ws1_bw185 _ mm19
theorem bw209 : Cond.code yX0_isBackFromCycle cX0_isBackFromCycle 4 (some .boolean) ∈ BW := ws1_bw185 _ mm20
theorem bw210 : Cond.methodLink RX0 132 yX0_monthLength ∈ BW := ws1_bw185 _ mm21
theorem bw211 : Cond.static yX0_monthLength ∈ BW := ws1_bw185 _ mm22
theorem bw212 : Cond.code yX0_monthLength cX0_monthLength 2 (some .int) ∈ BW := ws1_bw185 _ mm23
set_option maxRecDepth 10000 in
theorem ws1_bw213 : ∀ w : Cond, w ∈ [Cond.methodLink RX0 234 yJ9_min_7cf53, Cond.static yJ9_min_7cf53, Cond.code yJ9_min_7cf53 cJ9_min_7cf53 2 (some .int), Cond.constantLong RX0 273 (146097), Cond.methodLink RX0 353 yX0_isCutWell, Cond.static yX0_isCutWell, Cond.code yX0_isCutWell cX0_isCutWell 5 (some .boolean), Cond.methodLink RX0 100 yX0_cutNano, Cond.static yX0_cutNano, Cond.code yX0_cutNano cX0_cutNano 5 (some .long), Cond.methodLink RX0 254 yX0_nanosOfUnit, Cond.static yX0_nanosOfUnit, Cond.code yX0_nanosOfUnit cX0_nanosOfUnit 1 (some .long), Cond.constantLong RX0 281 (1000), Cond.constantLong RX0 283 (1000000), Cond.constantLong RX0 285 (43200000000000), Cond.methodLink RX0 259 yX0_quotient, Cond.static yX0_quotient, Cond.code yX0_quotient cX0_quotient 4 (some .long), Cond.methodLink RX0 177 yX0_isSoundPair, Cond.instanceMethod yX0_isSoundPair, Cond.code yX0_isSoundPair cX0_isSoundPair 5 (some .boolean), Cond.methodLink RX0 151 yX0_order, Cond.instanceMethod yX0_order] → w ∈ BW := mS1 157 (List.Sublist.cons₂ _ (List.Sublist.cons₂ _ (List.Sublist.cons₂ _ (List.Sublist.cons₂ _ (List.Sublist.cons₂ _ (List.Sublist.cons₂ _ (List.Sublist.cons₂ _ (List.Sublist.cons₂ _ (List.Sublist.cons₂ _ (List.Sublist.cons₂ _ (List.Sublist.cons₂ _ (List.Sublist.cons₂ _ (List.Sublist.cons₂ _ (List.Sublist.cons₂ _ (List.Sublist.cons₂ _ (List.Sublist.cons₂ _ (List.Sublist.cons₂ _ (List.Sublist.cons₂ _ (List.Sublist.cons₂ _ (List.Sublist.cons₂ _ (List.Sublist.cons _ (List.Sublist.cons₂ _ (List.Sublist.cons₂ _ (List.Sublist.cons₂ _ (List.Sublist.cons _ (List.Sublist.cons₂ _ (List.nil_sublist _))))))))))))))))))))))))))) (by decide +kernel)
theorem bw213 : Cond.methodLink RX0 234 yJ9_min_7cf53 ∈ BW := ws1_bw213 _ mm0
theorem bw214 : Cond.static yJ9_min_7cf53 ∈ BW := ws1_bw213 _ mm1
theorem bw215 : Cond.code yJ9_min_7cf53 cJ9_min_7cf53 2 (some .int) ∈ BW := ws1_bw213 _ mm2
theorem bw216 : Cond.constantLong RX0 273 (146097) ∈ BW := ws1_bw213 _ mm3
theorem bw217 : Cond.methodLink RX0 353 yX0_isCutWell ∈ BW := ws1_bw213 _ mm4
theorem bw218 : Cond.static yX0_isCutWell ∈ BW := ws1_bw213 _ mm5
theorem bw219 : Cond.code yX0_isCutWell cX0_isCutWell 5 (some .boolean) ∈ BW := ws1_bw213 _ mm6
theorem bw220 : Cond.methodLink RX0 100 yX0_cutNano ∈ BW := ws1_bw213 _ mm7
theorem bw221 : Cond.static yX0_cutNano ∈ BW := ws1_bw213 _ mm8
theorem bw222 : Cond.code yX0_cutNano cX0_cutNano 5 (some .long) ∈ BW := ws1_bw213 _ mm9
theorem bw223 : Cond.methodLink RX0 254 yX0_nanosOfUnit ∈ BW := ws1_bw213 _ mm10
theorem bw224 : Cond.static yX0_nanosOfUnit ∈ BW := ws1_bw213 _ mm11
theorem bw225 : Cond.code yX0_nanosOfUnit cX0_nanosOfUnit 1 (some .long) ∈ BW := ws1_bw213 _ mm12
theorem bw226 : Cond.constantLong RX0 281 (1000) ∈ BW := ws1_bw213 _ mm13
theorem bw227 : Cond.constantLong RX0 283 (1000000) ∈ BW := ws1_bw213 _ mm14
theorem bw228 : Cond.constantLong RX0 285 (43200000000000) ∈ BW := ws1_bw213 _ mm15
theorem bw229 : Cond.methodLink RX0 259 yX0_quotient ∈ BW := ws1_bw213 _ mm16
theorem bw230 : Cond.static yX0_quotient ∈ BW := ws1_bw213 _ mm17
theorem bw231 : Cond.code yX0_quotient cX0_quotient 4 (some .long) ∈ BW := ws1_bw213 _ mm18
theorem bw232 : Cond.methodLink RX0 177 yX0_isSoundPair ∈ BW := ws1_bw213 _ mm19
theorem bw234 : Cond.instanceMethod yX0_isSoundPair ∈ BW := ws1_bw213 _ mm20
theorem bw235 : Cond.code yX0_isSoundPair cX0_isSoundPair 5 (some .boolean) ∈ BW := ws1_bw213 _ mm21
theorem bw236 : Cond.methodLink RX0 151 yX0_order ∈ BW := ws1_bw213 _ mm22
theorem bw238 : Cond.instanceMethod yX0_order ∈ BW := ws1_bw213 _ mm23
set_option maxRecDepth 10000 in
theorem ws1_bw239 : ∀ w : Cond, w ∈ [Cond.code yX0_order cX0_order 3 (some .int), Cond.methodLink RX0 154 yX0_isSameLine, Cond.instanceMethod yX0_isSameLine, Cond.code yX0_isSameLine cX0_isSameLine 3 (some .boolean), Cond.methodLink RX0 189 yX0_gapInUnits, Cond.instanceMethod yX0_gapInUnits, Cond.code yX0_gapInUnits cX0_gapInUnits 10 (some .long), Cond.constantLong RX0 252 (7), Cond.methodLink RX0 185 yX0_mix, Cond.static yX0_mix, Cond.code yX0_mix cX0_mix 4 (some .long), Cond.constantLong RX0 342 (31), Cond.methodLink RX0 129 yX0_weekday, Cond.static yX0_weekday, Cond.code yX0_weekday cX0_weekday 2 (some .int), Cond.constantLong RX0 275 (3), Cond.methodLink RX0 168 yX0_houseNumber, Cond.instanceMethod yX0_houseNumber, Cond.code yX0_houseNumber cX0_houseNumber 2 (some .int), Cond.methodLink RX0 333 yX0_countRepeated, Cond.instanceMethod yX0_countRepeated, Cond.code yX0_countRepeated cX0_countRepeated 3 (some .int), Cond.methodLink RX0 339 yX0_isRepeated, Cond.instanceMethod yX0_isRepeated] → w ∈ BW := mS1 183 (List.Sublist.cons₂ _ (List.Sublist.cons₂ _ (List.Sublist.cons _ (List.Sublist.cons₂ _ (List.Sublist.cons₂ _ (List.Sublist.cons₂ _ (List.Sublist.cons _ (List.Sublist.cons₂ _ (List.Sublist.cons₂ _ (List.Sublist.cons₂ _ (List.Sublist.cons _ (List.Sublist.cons _ (List.Sublist.cons _ (List.Sublist.cons _ (List.Sublist.cons _ (List.Sublist.cons _ (List.Sublist.cons _ (List.Sublist.cons _ (List.Sublist.cons _ (List.Sublist.cons₂ _ (List.Sublist.cons₂ _ (List.Sublist.cons₂ _ (List.Sublist.cons₂ _ (List.Sublist.cons₂ _ (List.Sublist.cons₂ _ (List.Sublist.cons₂ _ (List.Sublist.cons₂ _ (List.Sublist.cons _ (List.Sublist.cons _ (List.Sublist.cons _ (List.Sublist.cons _ (List.Sublist.cons₂ _ (List.Sublist.cons _ (List.Sublist.cons₂ _ (List.Sublist.cons₂ _ (List.Sublist.cons₂ _ (List.Sublist.cons _ (List.Sublist.cons₂ _ (List.Sublist.cons₂ _ (List.Sublist.cons₂ _ (List.Sublist.cons _ (List.Sublist.cons₂ _ (List.nil_sublist _))))))))))))))))))))))))))))))))))))))))))) (by decide +kernel)
theorem bw239 : Cond.code yX0_order cX0_order 3 (some .int) ∈ BW := ws1_bw239 _ mm0
theorem bw240 : Cond.methodLink RX0 154 yX0_isSameLine ∈ BW := ws1_bw239 _ mm1
theorem bw242 : Cond.instanceMethod yX0_isSameLine ∈ BW := ws1_bw239 _ mm2
theorem bw243 : Cond.code yX0_isSameLine cX0_isSameLine 3 (some .boolean) ∈ BW := ws1_bw239 _ mm3
theorem bw244 : Cond.methodLink RX0 189 yX0_gapInUnits ∈ BW := ws1_bw239 _ mm4
theorem bw246 : Cond.instanceMethod yX0_gapInUnits ∈ BW := ws1_bw239 _ mm5
theorem bw247 : Cond.code yX0_gapInUnits cX0_gapInUnits 10 (some .long) ∈ BW := ws1_bw239 _ mm6
theorem bw248 : Cond.constantLong RX0 252 (7) ∈ BW := ws1_bw239 _ mm7
theorem bw258 : Cond.methodLink RX0 185 yX0_mix ∈ BW := ws1_bw239 _ mm8
theorem bw259 : Cond.static yX0_mix ∈ BW := ws1_bw239 _ mm9
theorem bw260 : Cond.code yX0_mix cX0_mix 4 (some .long) ∈ BW := ws1_bw239 _ mm10
theorem bw261 : Cond.constantLong RX0 342 (31) ∈ BW := ws1_bw239 _ mm11
theorem bw262 : Cond.methodLink RX0 129 yX0_weekday ∈ BW := ws1_bw239 _ mm12
theorem bw263 : Cond.static yX0_weekday ∈ BW := ws1_bw239 _ mm13
theorem bw264 : Cond.code yX0_weekday cX0_weekday 2 (some .int) ∈ BW := ws1_bw239 _ mm14
theorem bw265 : Cond.constantLong RX0 275 (3) ∈ BW := ws1_bw239 _ mm15
theorem bw270 : Cond.methodLink RX0 168 yX0_houseNumber ∈ BW := ws1_bw239 _ mm16
theorem bw272 : Cond.instanceMethod yX0_houseNumber ∈ BW := ws1_bw239 _ mm17
theorem bw273 : Cond.code yX0_houseNumber cX0_houseNumber 2 (some .int) ∈ BW := ws1_bw239 _ mm18
theorem bw274 : Cond.methodLink RX0 333 yX0_countRepeated ∈ BW := ws1_bw239 _ mm19
theorem bw276 : Cond.instanceMethod yX0_countRepeated ∈ BW := ws1_bw239 _ mm20
theorem bw277 : Cond.code yX0_countRepeated cX0_countRepeated 3 (some .int) ∈ BW := ws1_bw239 _ mm21
theorem bw278 : Cond.methodLink RX0 339 yX0_isRepeated ∈ BW := ws1_bw239 _ mm22
theorem bw280 : Cond.instanceMethod yX0_isRepeated ∈ BW := ws1_bw239 _ mm23
set_option maxRecDepth 10000 in
theorem ws1_bw281 : ∀ w : Cond, w ∈ [Cond.code yX0_isRepeated cX0_isRepeated 3 (some .boolean), Cond.methodLink RX0 336 yX0_outermost, Cond.instanceMethod yX0_outermost, Cond.code yX0_outermost cX0_outermost 4 (some .int)] → w ∈ BW := mS1 225 (List.Sublist.cons₂ _ (List.Sublist.cons₂ _ (List.Sublist.cons _ (List.Sublist.cons₂ _ (List.Sublist.cons₂ _ (List.nil_sublist _)))))) (by decide +kernel)
theorem bw281 : Cond.code yX0_isRepeated cX0_isRepeated 3 (some .boolean) ∈ BW := ws1_bw281 _ mm0
theorem bw282 : Cond.methodLink RX0 336 yX0_outermost ∈ BW := ws1_bw281 _ mm1
theorem bw284 : Cond.instanceMethod yX0_outermost ∈ BW := ws1_bw281 _ mm2
theorem bw285 : Cond.code yX0_outermost cX0_outermost 4 (some .int) ∈ BW := ws1_bw281 _ mm3
set_option maxRecDepth 10000 in
theorem ws2_bw308 : ∀ w : Cond, w ∈ [Cond.methodLink RX0 30 yX0_checkRange, Cond.static yX0_checkRange, Cond.code yX0_checkRange cX0_checkRange 3 none, Cond.classLink RX0 207 "java/lang/IllegalArgumentException", Cond.instantiable "java/lang/IllegalArgumentException" 6] → w ∈ BW := mS2 12 (List.Sublist.cons₂ _ (List.Sublist.cons₂ _ (List.Sublist.cons₂ _ (List.Sublist.cons₂ _ (List.Sublist.cons₂ _ (List.nil_sublist _)))))) (by decide +kernel)
theorem bw308 : Cond.methodLink RX0 30 yX0_checkRange ∈ BW := ws2_bw308 _ mm0
theorem bw309 : Cond.static yX0_checkRange ∈ BW := ws2_bw308 _ mm1
theorem bw310 : Cond.code yX0_checkRange cX0_checkRange 3 none ∈ BW := ws2_bw308 _ mm2
theorem bw311 : Cond.classLink RX0 207 "java/lang/IllegalArgumentException" ∈ BW := ws2_bw308 _ mm3
theorem bw312 : Cond.instantiable "java/lang/IllegalArgumentException" 6 ∈ BW := ws2_bw308 _ mm4
set_option maxRecDepth 10000 in
theorem ws2_bw378 : ∀ w : Cond, w ∈ [Cond.constant RX0 34 (999999999), Cond.methodLink RX0 48 yX0_checkMoment, Cond.static yX0_checkMoment, Cond.code yX0_checkMoment cX0_checkMoment 1 none, Cond.classLink RX0 200 "java/lang/IndexOutOfBoundsException", Cond.instantiable "java/lang/IndexOutOfBoundsException" 6, Cond.methodLink RX0 52 yX0_handTime, Cond.instanceMethod yX0_handTime, Cond.code yX0_handTime cX0_handTime 5 (some .long), Cond.methodLink RX0 55 yX0_becomeDate, Cond.instanceMethod yX0_becomeDate, Cond.code yX0_becomeDate cX0_becomeDate 7 (some .int), Cond.methodLink RX0 77 yX0_refuse, Cond.instanceMethod yX0_refuse, Cond.code yX0_refuse cX0_refuse 1 (some .int), Cond.constant RX0 59 (-10000000), Cond.constant RX0 60 (10000000), Cond.methodLink RX0 61 yX0_becomeDay, Cond.instanceMethod yX0_becomeDay, Cond.code yX0_becomeDay cX0_becomeDay 9 (some .int), Cond.constantLong RX0 221 (-4371587), Cond.methodLink RX0 225 yX0_yearOf, Cond.static yX0_yearOf, Cond.code yX0_yearOf cX0_yearOf 3 (some .int)] → w ∈ BW := mS2 82 (List.Sublist.cons₂ _ (List.Sublist.cons _ (List.Sublist.cons _ (List.Sublist.cons _ (List.Sublist.cons _ (List.Sublist.cons _ (List.Sublist.cons _ (List.Sublist.cons _ (List.Sublist.cons _ (List.Sublist.cons₂ _ (List.Sublist.cons₂ _ (List.Sublist.cons₂ _ (List.Sublist.cons₂ _ (List.Sublist.cons₂ _ (List.Sublist.cons _ (List.Sublist.cons _ (List.Sublist.cons _ (List.Sublist.cons _ (List.Sublist.cons _ (List.Sublist.cons _ (List.Sublist.cons _ (List.Sublist.cons _ (List.Sublist.cons _ (List.Sublist.cons _ (List.Sublist.cons _ (List.Sublist.cons _ (List.Sublist.cons _ (List.Sublist.cons _ (List.Sublist.cons₂ _ (List.Sublist.cons _ (List.Sublist.cons₂ _ (List.Sublist.cons₂ _ (List.Sublist.cons₂ _ (List.Sublist.cons _ (List.Sublist.cons₂ _ (List.Sublist.cons₂ _ (List.Sublist.cons₂ _ (List.Sublist.cons _ (List.Sublist.cons₂ _ (List.Sublist.cons₂ _ (List.Sublist.cons _ (List.Sublist.cons _ (List.Sublist.cons _ (List.Sublist.cons _ (List.Sublist.cons _ (List.Sublist.cons _ (List.Sublist.cons _ (List.Sublist.cons₂ _ (List.Sublist.cons₂ _ (List.Sublist.cons₂ _ (List.Sublist.cons _ (List.Sublist.cons₂ _ (List.Sublist.cons₂ _ (List.Sublist.cons₂ _ (List.Sublist.cons₂ _ (List.Sublist.cons₂ _ (List.Sublist.cons₂ _ (List.nil_sublist _)))))))))))))))))))))))))))))))))))))))))))))))))))))))))) (by decide +kernel)
theorem bw378 : Cond.constant RX0 34 (999999999) ∈ BW := ws2_bw378 _ mm0
theorem bw387 : Cond.methodLink RX0 48 yX0_checkMoment ∈ BW := ws2_bw378 _ mm1
theorem bw388 : Cond.static yX0_checkMoment ∈ BW := ws2_bw378 _ mm2
theorem bw389 : Cond.code yX0_checkMoment cX0_checkMoment 1 none ∈ BW := ws2_bw378 _ mm3
theorem bw390 : Cond.classLink RX0 200 "java/lang/IndexOutOfBoundsException" ∈ BW := ws2_bw378 _ mm4
theorem bw391 : Cond.instantiable "java/lang/IndexOutOfBoundsException" 6 ∈ BW := ws2_bw378 _ mm5
theorem bw406 : Cond.methodLink RX0 52 yX0_handTime ∈ BW := ws2_bw378 _ mm6
theorem bw408 : Cond.instanceMethod yX0_handTime ∈ BW := ws2_bw378 _ mm7
theorem bw409 : Cond.code yX0_handTime cX0_handTime 5 (some .long) ∈ BW := ws2_bw378 _ mm8
theorem bw410 : Cond.methodLink RX0 55 yX0_becomeDate ∈ BW := ws2_bw378 _ mm9
theorem bw412 : Cond.instanceMethod yX0_becomeDate ∈ BW := ws2_bw378 _ mm10
theorem bw413 : Cond.code yX0_becomeDate cX0_becomeDate 7 (some .int) ∈ BW := ws2_bw378 _ mm11
theorem bw414 : Cond.methodLink RX0 77 yX0_refuse ∈ BW := ws2_bw378 _ mm12
theorem bw416 : Cond.instanceMethod yX0_refuse ∈ BW := ws2_bw378 _ mm13
theorem bw417 : Cond.code yX0_refuse cX0_refuse 1 (some .int) ∈ BW := ws2_bw378 _ mm14
theorem bw425 : Cond.constant RX0 59 (-10000000) ∈ BW := ws2_bw378 _ mm15
theorem bw426 : Cond.constant RX0 60 (10000000) ∈ BW := ws2_bw378 _ mm16
theorem bw427 : Cond.methodLink RX0 61 yX0_becomeDay ∈ BW := ws2_bw378 _ mm17
theorem bw429 : Cond.instanceMethod yX0_becomeDay ∈ BW := ws2_bw378 _ mm18
theorem bw430 : Cond.code yX0_becomeDay cX0_becomeDay 9 (some .int) ∈ BW := ws2_bw378 _ mm19
theorem bw431 : Cond.constantLong RX0 221 (-4371587) ∈ BW := ws2_bw378 _ mm20
theorem bw432 : Cond.methodLink RX0 225 yX0_yearOf ∈ BW := ws2_bw378 _ mm21
theorem bw433 : Cond.static yX0_yearOf ∈ BW := ws2_bw378 _ mm22
theorem bw434 : Cond.code yX0_yearOf cX0_yearOf 3 (some .int) ∈ BW := ws2_bw378 _ mm23
set_option maxRecDepth 10000 in
theorem ws2_bw435 : ∀ w : Cond, w ∈ [Cond.constantLong RX0 271 (400), Cond.methodLink RX0 228 yX0_monthOf, Cond.static yX0_monthOf, Cond.code yX0_monthOf cX0_monthOf 3 (some .int), Cond.methodLink RX0 65 yX0_becomeAs, Cond.instanceMethod yX0_becomeAs, Cond.code yX0_becomeAs cX0_becomeAs 5 (some .int)] → w ∈ BW := mS2 139 (List.Sublist.cons₂ _ (List.Sublist.cons₂ _ (List.Sublist.cons₂ _ (List.Sublist.cons₂ _ (List.Sublist.cons _ (List.Sublist.cons _ (List.Sublist.cons _ (List.Sublist.cons _ (List.Sublist.cons _ (List.Sublist.cons _ (List.Sublist.cons _ (List.Sublist.cons₂ _ (List.Sublist.cons _ (List.Sublist.cons₂ _ (List.Sublist.cons₂ _ (List.nil_sublist _)))))))))))))))) (by decide +kernel)
theorem bw435 : Cond.constantLong RX0 271 (400) ∈ BW := ws2_bw435 _ mm0
theorem bw436 : Cond.methodLink RX0 228 yX0_monthOf ∈ BW := ws2_bw435 _ mm1
theorem bw437 : Cond.static yX0_monthOf ∈ BW := ws2_bw435 _ mm2
theorem bw438 : Cond.code yX0_monthOf cX0_monthOf 3 (some .int) ∈ BW := ws2_bw435 _ mm3
theorem bw446 : Cond.methodLink RX0 65 yX0_becomeAs ∈ BW := ws2_bw435 _ mm4
theorem bw448 : Cond.instanceMethod yX0_becomeAs ∈ BW := ws2_bw435 _ mm5
theorem bw449 : Cond.code yX0_becomeAs cX0_becomeAs 5 (some .int) ∈ BW := ws2_bw435 _ mm6
set_option maxRecDepth 10000 in
theorem ws2_bw471 : ∀ w : Cond, w ∈ [Cond.methodLink RX0 69 yX0_becomeMonth, Cond.instanceMethod yX0_becomeMonth, Cond.code yX0_becomeMonth cX0_becomeMonth 5 (some .int)] → w ∈ BW := mS2 175 (List.Sublist.cons₂ _ (List.Sublist.cons _ (List.Sublist.cons₂ _ (List.Sublist.cons₂ _ (List.nil_sublist _))))) (by decide +kernel)
theorem bw471 : Cond.methodLink RX0 69 yX0_becomeMonth ∈ BW := ws2_bw471 _ mm0
theorem bw473 : Cond.instanceMethod yX0_becomeMonth ∈ BW := ws2_bw471 _ mm1
theorem bw474 : Cond.code yX0_becomeMonth cX0_becomeMonth 5 (some .int) ∈ BW := ws2_bw471 _ mm2
set_option maxRecDepth 10000 in
theorem ws2_bw496 : ∀ w : Cond, w ∈ [Cond.methodLink RX0 73 yX0_yearLength, Cond.static yX0_yearLength, Cond.code yX0_yearLength cX0_yearLength 1 (some .int)] → w ∈ BW := mS2 200 (List.Sublist.cons₂ _ (List.Sublist.cons₂ _ (List.Sublist.cons₂ _ (List.nil_sublist _)))) (by decide +kernel)
theorem bw496 : Cond.methodLink RX0 73 yX0_yearLength ∈ BW := ws2_bw496 _ mm0
theorem bw497 : Cond.static yX0_yearLength ∈ BW := ws2_bw496 _ mm1
theorem bw498 : Cond.code yX0_yearLength cX0_yearLength 1 (some .int) ∈ BW := ws2_bw496 _ mm2
set_option maxRecDepth 10000 in
theorem ws3_bw541 : ∀ w : Cond, w ∈ [Cond.constant RX0 104 (-100000000), Cond.constant RX0 105 (100000000), Cond.constantLong RX0 106 (12), Cond.methodLink RX0 108 yX0_goMonths, Cond.instanceMethod yX0_goMonths, Cond.code yX0_goMonths cX0_goMonths 8 (some .int), Cond.methodLink RX0 239 yX0_monthCount, Cond.instanceMethod yX0_monthCount, Cond.code yX0_monthCount cX0_monthCount 2 (some .long), Cond.constantLong RX0 245 (-9999), Cond.constantLong RX0 247 (9999), Cond.methodLink RX0 112 yX0_goUnits, Cond.instanceMethod yX0_goUnits, Cond.code yX0_goUnits cX0_goUnits 11 (some .int), Cond.methodLink RX0 118 yX0_goLine, Cond.instanceMethod yX0_goLine, Cond.code yX0_goLine cX0_goLine 10 (some .int)] → w ∈ BW := mS3 5 (List.Sublist.cons₂ _ (List.Sublist.cons₂ _ (List.Sublist.cons₂ _ (List.Sublist.cons₂ _ (List.Sublist.cons _ (List.Sublist.cons₂ _ (List.Sublist.cons₂ _ (List.Sublist.cons₂ _ (List.Sublist.cons _ (List.Sublist.cons₂ _ (List.Sublist.cons₂ _ (List.Sublist.cons₂ _ (List.Sublist.cons₂ _ (List.Sublist.cons _ (List.Sublist.cons _ (List.Sublist.cons _ (List.Sublist.cons _ (List.Sublist.cons _ (List.Sublist.cons _ (List.Sublist.cons _ (List.Sublist.cons _ (List.Sublist.cons _ (List.Sublist.cons _ (List.Sublist.cons _ (List.Sublist.cons _ (List.Sublist.cons _ (List.Sublist.cons _ (List.Sublist.cons₂ _ (List.Sublist.cons _ (List.Sublist.cons₂ _ (List.Sublist.cons₂ _ (List.Sublist.cons₂ _ (List.Sublist.cons _ (List.Sublist.cons₂ _ (List.Sublist.cons₂ _ (List.nil_sublist _)))))))))))))))))))))))))))))))))))) (by decide +kernel)
theorem bw541 : Cond.constant RX0 104 (-100000000) ∈ BW := ws3_bw541 _ mm0
theorem bw542 : Cond.constant RX0 105 (100000000) ∈ BW := ws3_bw541 _ mm1
theorem bw543 : Cond.constantLong RX0 106 (12) ∈ BW := ws3_bw541 _ mm2
theorem bw544 : Cond.methodLink RX0 108 yX0_goMonths ∈ BW := ws3_bw541 _ mm3
theorem bw546 : Cond.instanceMethod yX0_goMonths ∈ BW := ws3_bw541 _ mm4
theorem bw547 : Cond.code yX0_goMonths cX0_goMonths 8 (some .int) ∈ BW := ws3_bw541 _ mm5
theorem bw548 : Cond.methodLink RX0 239 yX0_monthCount ∈ BW := ws3_bw541 _ mm6
theorem bw550 : Cond.instanceMethod yX0_monthCount ∈ BW := ws3_bw541 _ mm7
theorem bw551 : Cond.code yX0_monthCount cX0_monthCount 2 (some .long) ∈ BW := ws3_bw541 _ mm8
theorem bw552 : Cond.constantLong RX0 245 (-9999) ∈ BW := ws3_bw541 _ mm9
theorem bw553 : Cond.constantLong RX0 247 (9999) ∈ BW := ws3_bw541 _ mm10
theorem bw568 : Cond.methodLink RX0 112 yX0_goUnits ∈ BW := ws3_bw541 _ mm11
theorem bw570 : Cond.instanceMethod yX0_goUnits ∈ BW := ws3_bw541 _ mm12
theorem bw571 : Cond.code yX0_goUnits cX0_goUnits 11 (some .int) ∈ BW := ws3_bw541 _ mm13
theorem bw572 : Cond.methodLink RX0 118 yX0_goLine ∈ BW := ws3_bw541 _ mm14
theorem bw574 : Cond.instanceMethod yX0_goLine ∈ BW := ws3_bw541 _ mm15
theorem bw575 : Cond.code yX0_goLine cX0_goLine 10 (some .int) ∈ BW := ws3_bw541 _ mm16
set_option maxRecDepth 10000 in
theorem ws3_bw611 : ∀ w : Cond, w ∈ [Cond.constantLong RX0 116 (-12)] → w ∈ BW := mS3 75 (List.Sublist.cons₂ _ (List.nil_sublist _)) (by decide +kernel)
theorem bw611 : Cond.constantLong RX0 116 (-12) ∈ BW := ws3_bw611 _ mm0
set_option maxRecDepth 10000 in
theorem ws3_bw675 : ∀ w : Cond, w ∈ [Cond.constant RX0 121 (-100000), Cond.constant RX0 122 (100000), Cond.methodLink RX0 123 yX0_monthsOfUnit, Cond.static yX0_monthsOfUnit, Cond.code yX0_monthsOfUnit cX0_monthsOfUnit 1 (some .long), Cond.constantLong RX0 287 (120), Cond.constantLong RX0 289 (1200), Cond.constantLong RX0 291 (12000)] → w ∈ BW := mS3 139 (List.Sublist.cons₂ _ (List.Sublist.cons₂ _ (List.Sublist.cons₂ _ (List.Sublist.cons₂ _ (List.Sublist.cons₂ _ (List.Sublist.cons₂ _ (List.Sublist.cons₂ _ (List.Sublist.cons₂ _ (List.nil_sublist _))))))))) (by decide +kernel)
theorem bw675 : Cond.constant RX0 121 (-100000) ∈ BW := ws3_bw675 _ mm0
theorem bw676 : Cond.constant RX0 122 (100000) ∈ BW := ws3_bw675 _ mm1
theorem bw677 : Cond.methodLink RX0 123 yX0_monthsOfUnit ∈ BW := ws3_bw675 _ mm2
theorem bw678 : Cond.static yX0_monthsOfUnit ∈ BW := ws3_bw675 _ mm3
theorem bw679 : Cond.code yX0_monthsOfUnit cX0_monthsOfUnit 1 (some .long) ∈ BW := ws3_bw675 _ mm4
theorem bw680 : Cond.constantLong RX0 287 (120) ∈ BW := ws3_bw675 _ mm5
theorem bw681 : Cond.constantLong RX0 289 (1200) ∈ BW := ws3_bw675 _ mm6
theorem bw682 : Cond.constantLong RX0 291 (12000) ∈ BW := ws3_bw675 _ mm7
set_option maxRecDepth 10000 in
theorem ws4_bw809 : ∀ w : Cond, w ∈ [Cond.methodLink RX0 305 yJ9_abs_067f4, Cond.static yJ9_abs_067f4, Cond.code yJ9_abs_067f4 cJ9_abs_067f4 2 (some .long)] → w ∈ BW := mS4 33 (List.Sublist.cons₂ _ (List.Sublist.cons₂ _ (List.Sublist.cons₂ _ (List.nil_sublist _)))) (by decide +kernel)
theorem bw809 : Cond.methodLink RX0 305 yJ9_abs_067f4 ∈ BW := ws4_bw809 _ mm0
theorem bw810 : Cond.static yJ9_abs_067f4 ∈ BW := ws4_bw809 _ mm1
theorem bw811 : Cond.code yJ9_abs_067f4 cJ9_abs_067f4 2 (some .long) ∈ BW := ws4_bw809 _ mm2
set_option maxRecDepth 10000 in
theorem ws5_bw1091 : ∀ w : Cond, w ∈ [Cond.constant RX0 293 (1000000), Cond.constantLong RX0 294 (24)] → w ∈ BW := mS5 75 (List.Sublist.cons₂ _ (List.Sublist.cons₂ _ (List.nil_sublist _))) (by decide +kernel)
theorem bw1091 : Cond.constant RX0 293 (1000000) ∈ BW := ws5_bw1091 _ mm0
theorem bw1092 : Cond.constantLong RX0 294 (24) ∈ BW := ws5_bw1091 _ mm1
set_option maxRecDepth 10000 in
theorem ws5_bw1133 : ∀ w : Cond, w ∈ [Cond.constantLong RX0 309 (100000), Cond.methodLink RX0 311 yX0_wholeMonths, Cond.instanceMethod yX0_wholeMonths, Cond.code yX0_wholeMonths cX0_wholeMonths 6 (some .long)] → w ∈ BW := mS5 117 (List.Sublist.cons₂ _ (List.Sublist.cons _ (List.Sublist.cons _ (List.Sublist.cons _ (List.Sublist.cons _ (List.Sublist.cons _ (List.Sublist.cons₂ _ (List.Sublist.cons _ (List.Sublist.cons₂ _ (List.Sublist.cons₂ _ (List.nil_sublist _))))))))))) (by decide +kernel)
theorem bw1133 : Cond.constantLong RX0 309 (100000) ∈ BW := ws5_bw1133 _ mm0
theorem bw1139 : Cond.methodLink RX0 311 yX0_wholeMonths ∈ BW := ws5_bw1133 _ mm1
theorem bw1141 : Cond.instanceMethod yX0_wholeMonths ∈ BW := ws5_bw1133 _ mm2
theorem bw1142 : Cond.code yX0_wholeMonths cX0_wholeMonths 6 (some .long) ∈ BW := ws5_bw1133 _ mm3
set_option maxRecDepth 10000 in
theorem ws5_bw1163 : ∀ w : Cond, w ∈ [Cond.fieldLink RX2 23 "DaytimepairModel" "thrown" "I", Cond.fieldLink RX2 7 "DaytimepairModel" "years" "[I", Cond.fieldLink RX2 13 "DaytimepairModel" "months" "[I", Cond.fieldLink RX2 16 "DaytimepairModel" "days" "[I", Cond.fieldLink RX2 19 "DaytimepairModel" "times" "[J", Cond.fieldLink RX2 143 "DaytimepairModel" "handHour" "I", Cond.fieldLink RX2 146 "DaytimepairModel" "handMinute" "I", Cond.fieldLink RX2 149 "DaytimepairModel" "handSecond" "I", Cond.fieldLink RX2 152 "DaytimepairModel" "handNano" "I", Cond.fieldLink RX2 105 "DaytimepairModel" "done" "I", Cond.fieldLink RX2 90 "DaytimepairModel" "refused" "I", Cond.fieldLink RX2 256 "DaytimepairModel" "knocks" "I", Cond.lays "DaytimepairModel" "DaytimepairModel" "thrown" "I", Cond.laysFinal "DaytimepairModel" "DaytimepairModel" "years" "[I", Cond.laysFinal "DaytimepairModel" "DaytimepairModel" "months" "[I", Cond.laysFinal "DaytimepairModel" "DaytimepairModel" "days" "[I", Cond.laysFinal "DaytimepairModel" "DaytimepairModel" "times" "[J", Cond.lays "DaytimepairModel" "DaytimepairModel" "handHour" "I", Cond.lays "DaytimepairModel" "DaytimepairModel" "handMinute" "I", Cond.lays "DaytimepairModel" "DaytimepairModel" "handSecond" "I", Cond.lays "DaytimepairModel" "DaytimepairModel" "handNano" "I", Cond.lays "DaytimepairModel" "DaytimepairModel" "done" "I", Cond.lays "DaytimepairModel" "DaytimepairModel" "refused" "I", Cond.lays "DaytimepairModel" "DaytimepairModel" "knocks" "I"] → w ∈ BW := mS5 147 (List.Sublist.cons₂ _ (List.Sublist.cons₂ _ (List.Sublist.cons₂ _ (List.Sublist.cons₂ _ (List.Sublist.cons₂ _ (List.Sublist.cons₂ _ (List.Sublist.cons₂ _ (List.Sublist.cons₂ _ (List.Sublist.cons₂ _ (List.Sublist.cons₂ _ (List.Sublist.cons₂ _ (List.Sublist.cons₂ _ (List.Sublist.cons₂ _ (List.Sublist.cons _ (List.Sublist.cons₂ _ (List.Sublist.cons _ (List.Sublist.cons₂ _ (List.Sublist.cons _ (List.Sublist.cons₂ _ (List.Sublist.cons _ (List.Sublist.cons₂ _ (List.Sublist.cons _ (List.Sublist.cons₂ _ (List.Sublist.cons _ (List.Sublist.cons₂ _ (List.Sublist.cons _ (List.Sublist.cons₂ _ (List.Sublist.cons _ (List.Sublist.cons₂ _ (List.Sublist.cons _ (List.Sublist.cons₂ _ (List.Sublist.cons _ (List.Sublist.cons₂ _ (List.Sublist.cons _ (List.Sublist.cons₂ _ (List.nil_sublist _)))))))))))))))))))))))))))))))))))) (by decide +kernel)
theorem bw1163 : Cond.fieldLink RX2 23 "DaytimepairModel" "thrown" "I" ∈ BW := ws5_bw1163 _ mm0
theorem bw1164 : Cond.fieldLink RX2 7 "DaytimepairModel" "years" "[I" ∈ BW := ws5_bw1163 _ mm1
theorem bw1165 : Cond.fieldLink RX2 13 "DaytimepairModel" "months" "[I" ∈ BW := ws5_bw1163 _ mm2
theorem bw1166 : Cond.fieldLink RX2 16 "DaytimepairModel" "days" "[I" ∈ BW := ws5_bw1163 _ mm3
theorem bw1167 : Cond.fieldLink RX2 19 "DaytimepairModel" "times" "[J" ∈ BW := ws5_bw1163 _ mm4
theorem bw1168 : Cond.fieldLink RX2 143 "DaytimepairModel" "handHour" "I" ∈ BW := ws5_bw1163 _ mm5
theorem bw1169 : Cond.fieldLink RX2 146 "DaytimepairModel" "handMinute" "I" ∈ BW := ws5_bw1163 _ mm6
theorem bw1170 : Cond.fieldLink RX2 149 "DaytimepairModel" "handSecond" "I" ∈ BW := ws5_bw1163 _ mm7
theorem bw1171 : Cond.fieldLink RX2 152 "DaytimepairModel" "handNano" "I" ∈ BW := ws5_bw1163 _ mm8
theorem bw1172 : Cond.fieldLink RX2 105 "DaytimepairModel" "done" "I" ∈ BW := ws5_bw1163 _ mm9
theorem bw1173 : Cond.fieldLink RX2 90 "DaytimepairModel" "refused" "I" ∈ BW := ws5_bw1163 _ mm10
theorem bw1174 : Cond.fieldLink RX2 256 "DaytimepairModel" "knocks" "I" ∈ BW := ws5_bw1163 _ mm11
theorem bw1175 : Cond.lays "DaytimepairModel" "DaytimepairModel" "thrown" "I" ∈ BW := ws5_bw1163 _ mm12
theorem bw1177 : Cond.laysFinal "DaytimepairModel" "DaytimepairModel" "years" "[I" ∈ BW := ws5_bw1163 _ mm13
theorem bw1179 : Cond.laysFinal "DaytimepairModel" "DaytimepairModel" "months" "[I" ∈ BW := ws5_bw1163 _ mm14
theorem bw1181 : Cond.laysFinal "DaytimepairModel" "DaytimepairModel" "days" "[I" ∈ BW := ws5_bw1163 _ mm15
theorem bw1183 : Cond.laysFinal "DaytimepairModel" "DaytimepairModel" "times" "[J" ∈ BW := ws5_bw1163 _ mm16
theorem bw1185 : Cond.lays "DaytimepairModel" "DaytimepairModel" "handHour" "I" ∈ BW := ws5_bw1163 _ mm17
theorem bw1187 : Cond.lays "DaytimepairModel" "DaytimepairModel" "handMinute" "I" ∈ BW := ws5_bw1163 _ mm18
theorem bw1189 : Cond.lays "DaytimepairModel" "DaytimepairModel" "handSecond" "I" ∈ BW := ws5_bw1163 _ mm19
theorem bw1191 : Cond.lays "DaytimepairModel" "DaytimepairModel" "handNano" "I" ∈ BW := ws5_bw1163 _ mm20
theorem bw1193 : Cond.lays "DaytimepairModel" "DaytimepairModel" "done" "I" ∈ BW := ws5_bw1163 _ mm21
theorem bw1195 : Cond.lays "DaytimepairModel" "DaytimepairModel" "refused" "I" ∈ BW := ws5_bw1163 _ mm22
theorem bw1197 : Cond.lays "DaytimepairModel" "DaytimepairModel" "knocks" "I" ∈ BW := ws5_bw1163 _ mm23
set_option maxRecDepth 10000 in
theorem ws5_bw1208 : ∀ w : Cond, w ∈ [Cond.methodLink RX2 86 yX2_isFrom, Cond.static yX2_isFrom, Cond.code yX2_isFrom cX2_isFrom 3 (some .boolean), Cond.constant RX2 142 (999999999), Cond.methodLink RX2 157 yX2_isNone, Cond.static yX2_isNone, Cond.code yX2_isNone cX2_isNone 1 (some .boolean), Cond.methodLink RX2 160 yX2_refuses, Cond.instanceMethod yX2_refuses, Cond.code yX2_refuses cX2_refuses 3 (some .boolean), Cond.methodLink RX2 49 yX2_daysOf, Cond.static yX2_daysOf, Cond.code yX2_daysOf cX2_daysOf 2 (some .int), Cond.methodLink RX2 27 yX2_isLeapYear, Cond.static yX2_isLeapYear, Cond.code yX2_isLeapYear cX2_isLeapYear 1 (some .boolean), Cond.methodLink RX2 111 yX2_refuse, Cond.instanceMethod yX2_refuse, Cond.code yX2_refuse cX2_refuse 1 (some .int), Cond.methodLink RX2 164 yX2_handTime, Cond.instanceMethod yX2_handTime, Cond.code yX2_handTime cX2_handTime 4 (some .long), Cond.constantLong RX2 155 (60), Cond.constantLong RX2 74 (1000000000)] → w ∈ BW := mS5 192 (List.Sublist.cons₂ _ (List.Sublist.cons₂ _ (List.Sublist.cons₂ _ (List.Sublist.cons₂ _ (List.Sublist.cons _ (List.Sublist.cons _ (List.Sublist.cons _ (List.Sublist.cons _ (List.Sublist.cons₂ _ (List.Sublist.cons₂ _ (List.Sublist.cons₂ _ (List.Sublist.cons₂ _ (List.Sublist.cons _ (List.Sublist.cons₂ _ (List.Sublist.cons₂ _ (List.Sublist.cons₂ _ (List.Sublist.cons₂ _ (List.Sublist.cons₂ _ (List.Sublist.cons₂ _ (List.Sublist.cons₂ _ (List.Sublist.cons₂ _ (List.Sublist.cons₂ _ (List.Sublist.cons _ (List.Sublist.cons₂ _ (List.Sublist.cons₂ _ (List.Sublist.cons₂ _ (List.Sublist.cons _ (List.Sublist.cons₂ _ (List.Sublist.cons₂ _ (List.Sublist.cons₂ _ (List.Sublist.cons₂ _ (List.nil_sublist _)))))))))))))))))))))))))))))))) (by decide +kernel)
theorem bw1208 : Cond.methodLink RX2 86 yX2_isFrom ∈ BW := ws5_bw1208 _ mm0
theorem bw1209 : Cond.static yX2_isFrom ∈ BW := ws5_bw1208 _ mm1
theorem bw1210 : Cond.code yX2_isFrom cX2_isFrom 3 (some .boolean) ∈ BW := ws5_bw1208 _ mm2
theorem bw1211 : Cond.constant RX2 142 (999999999) ∈ BW := ws5_bw1208 _ mm3
theorem bw1216 : Cond.methodLink RX2 157 yX2_isNone ∈ BW := ws5_bw1208 _ mm4
theorem bw1217 : Cond.static yX2_isNone ∈ BW := ws5_bw1208 _ mm5
theorem bw1218 : Cond.code yX2_isNone cX2_isNone 1 (some .boolean) ∈ BW := ws5_bw1208 _ mm6
theorem bw1219 : Cond.methodLink RX2 160 yX2_refuses ∈ BW := ws5_bw1208 _ mm7
theorem bw1221 : Cond.instanceMethod yX2_refuses ∈ BW := ws5_bw1208 _ mm8
theorem bw1222 : Cond.code yX2_refuses cX2_refuses 3 (some .boolean) ∈ BW := ws5_bw1208 _ mm9
theorem bw1223 : Cond.methodLink RX2 49 yX2_daysOf ∈ BW := ws5_bw1208 _ mm10
theorem bw1224 : Cond.static yX2_daysOf ∈ BW := ws5_bw1208 _ mm11
theorem bw1225 : Cond.code yX2_daysOf cX2_daysOf 2 (some .int) ∈ BW := ws5_bw1208 _ mm12
theorem bw1226 : Cond.methodLink RX2 27 yX2_isLeapYear ∈ BW := ws5_bw1208 _ mm13
theorem bw1227 : Cond.static yX2_isLeapYear ∈ BW := ws5_bw1208 _ mm14
theorem bw1228 : Cond.code yX2_isLeapYear cX2_isLeapYear 1 (some .boolean) ∈ BW := ws5_bw1208 _ mm15
theorem bw1229 : Cond.methodLink RX2 111 yX2_refuse ∈ BW := ws5_bw1208 _ mm16
theorem bw1231 : Cond.instanceMethod yX2_refuse ∈ BW := ws5_bw1208 _ mm17
theorem bw1232 : Cond.code yX2_refuse cX2_refuse 1 (some .int) ∈ BW := ws5_bw1208 _ mm18
theorem bw1233 : Cond.methodLink RX2 164 yX2_handTime ∈ BW := ws5_bw1208 _ mm19
theorem bw1235 : Cond.instanceMethod yX2_handTime ∈ BW := ws5_bw1208 _ mm20
theorem bw1236 : Cond.code yX2_handTime cX2_handTime 4 (some .long) ∈ BW := ws5_bw1208 _ mm21
theorem bw1237 : Cond.constantLong RX2 155 (60) ∈ BW := ws5_bw1208 _ mm22
theorem bw1238 : Cond.constantLong RX2 74 (1000000000) ∈ BW := ws5_bw1208 _ mm23
set_option maxRecDepth 10000 in
theorem ws5_bw1239 : ∀ w : Cond, w ∈ [Cond.methodLink RX2 119 yX2_become, Cond.instanceMethod yX2_become, Cond.code yX2_become cX2_become 7 (some .int), Cond.methodLink RX2 108 yX2_weekDayNow, Cond.instanceMethod yX2_weekDayNow, Cond.code yX2_weekDayNow cX2_weekDayNow 2 (some .int), Cond.methodLink RX2 97 yX2_dayNow, Cond.instanceMethod yX2_dayNow, Cond.code yX2_dayNow cX2_dayNow 2 (some .long), Cond.methodLink RX2 93 yX2_dayOf, Cond.static yX2_dayOf, Cond.code yX2_dayOf cX2_dayOf 3 (some .long), Cond.methodLink RX2 53 yX2_ahead, Cond.static yX2_ahead] → w ∈ BW := mS5 223 (List.Sublist.cons₂ _ (List.Sublist.cons _ (List.Sublist.cons₂ _ (List.Sublist.cons₂ _ (List.Sublist.cons₂ _ (List.Sublist.cons _ (List.Sublist.cons₂ _ (List.Sublist.cons₂ _ (List.Sublist.cons₂ _ (List.Sublist.cons _ (List.Sublist.cons₂ _ (List.Sublist.cons₂ _ (List.Sublist.cons₂ _ (List.Sublist.cons₂ _ (List.Sublist.cons₂ _ (List.Sublist.cons₂ _ (List.Sublist.cons₂ _ (List.nil_sublist _)))))))))))))))))) (by decide +kernel)
theorem bw1239 : Cond.methodLink RX2 119 yX2_become ∈ BW := ws5_bw1239 _ mm0
theorem bw1241 : Cond.instanceMethod yX2_become ∈ BW := ws5_bw1239 _ mm1
theorem bw1242 : Cond.code yX2_become cX2_become 7 (some .int) ∈ BW := ws5_bw1239 _ mm2
theorem bw1243 : Cond.methodLink RX2 108 yX2_weekDayNow ∈ BW := ws5_bw1239 _ mm3
theorem bw1245 : Cond.instanceMethod yX2_weekDayNow ∈ BW := ws5_bw1239 _ mm4
theorem bw1246 : Cond.code yX2_weekDayNow cX2_weekDayNow 2 (some .int) ∈ BW := ws5_bw1239 _ mm5
theorem bw1247 : Cond.methodLink RX2 97 yX2_dayNow ∈ BW := ws5_bw1239 _ mm6
theorem bw1249 : Cond.instanceMethod yX2_dayNow ∈ BW := ws5_bw1239 _ mm7
theorem bw1250 : Cond.code yX2_dayNow cX2_dayNow 2 (some .long) ∈ BW := ws5_bw1239 _ mm8
theorem bw1251 : Cond.methodLink RX2 93 yX2_dayOf ∈ BW := ws5_bw1239 _ mm9
theorem bw1252 : Cond.static yX2_dayOf ∈ BW := ws5_bw1239 _ mm10
theorem bw1253 : Cond.code yX2_dayOf cX2_dayOf 3 (some .long) ∈ BW := ws5_bw1239 _ mm11
theorem bw1254 : Cond.methodLink RX2 53 yX2_ahead ∈ BW := ws5_bw1239 _ mm12
theorem bw1255 : Cond.static yX2_ahead ∈ BW := ws5_bw1239 _ mm13
set_option maxRecDepth 10000 in
theorem ws6_bw1256 : ∀ w : Cond, w ∈ [Cond.code yX2_ahead cX2_ahead 2 (some .long), Cond.constantLong RX2 31 (365), Cond.constantLong RX2 33 (3), Cond.constantLong RX2 35 (4), Cond.methodLink RX2 37 yX2_floor, Cond.static yX2_floor, Cond.code yX2_floor cX2_floor 6 (some .long), Cond.constantLong RX2 41 (99), Cond.constantLong RX2 43 (100), Cond.constantLong RX2 45 (399), Cond.constantLong RX2 47 (400), Cond.constantLong RX2 57 (1970), Cond.methodLink RX2 59 yX2_inYear, Cond.static yX2_inYear, Cond.code yX2_inYear cX2_inYear 5 (some .int), Cond.methodLink RX2 101 yX2_weekDay, Cond.static yX2_weekDay, Cond.code yX2_weekDay cX2_weekDay 2 (some .int), Cond.constantLong RX2 68 (7), Cond.constant RX2 167 (-10000000), Cond.constant RX2 168 (10000000), Cond.methodLink RX2 138 yX2_becomeDay, Cond.instanceMethod yX2_becomeDay, Cond.code yX2_becomeDay cX2_becomeDay 7 (some .int)] → w ∈ BW := mS6 0 (List.Sublist.cons₂ _ (List.Sublist.cons₂ _ (List.Sublist.cons₂ _ (List.Sublist.cons₂ _ (List.Sublist.cons₂ _ (List.Sublist.cons₂ _ (List.Sublist.cons₂ _ (List.Sublist.cons₂ _ (List.Sublist.cons₂ _ (List.Sublist.cons₂ _ (List.Sublist.cons₂ _ (List.Sublist.cons₂ _ (List.Sublist.cons₂ _ (List.Sublist.cons₂ _ (List.Sublist.cons₂ _ (List.Sublist.cons₂ _ (List.Sublist.cons₂ _ (List.Sublist.cons₂ _ (List.Sublist.cons₂ _ (List.Sublist.cons _ (List.Sublist.cons _ (List.Sublist.cons _ (List.Sublist.cons _ (List.Sublist.cons₂ _ (List.Sublist.cons₂ _ (List.Sublist.cons₂ _ (List.Sublist.cons _ (List.Sublist.cons₂ _ (List.Sublist.cons₂ _ (List.nil_sublist _)))))))))))))))))))))))))))))) (by decide +kernel)
theorem bw1256 : Cond.code yX2_ahead cX2_ahead 2 (some .long) ∈ BW := ws6_bw1256 _ mm0
theorem bw1257 : Cond.constantLong RX2 31 (365) ∈ BW := ws6_bw1256 _ mm1
theorem bw1258 : Cond.constantLong RX2 33 (3) ∈ BW := ws6_bw1256 _ mm2
theorem bw1259 : Cond.constantLong RX2 35 (4) ∈ BW := ws6_bw1256 _ mm3
theorem bw1260 : Cond.methodLink RX2 37 yX2_floor ∈ BW := ws6_bw1256 _ mm4
theorem bw1261 : Cond.static yX2_floor ∈ BW := ws6_bw1256 _ mm5
theorem bw1262 : Cond.code yX2_floor cX2_floor 6 (some .long) ∈ BW := ws6_bw1256 _ mm6
theorem bw1263 : Cond.constantLong RX2 41 (99) ∈ BW := ws6_bw1256 _ mm7
theorem bw1264 : Cond.constantLong RX2 43 (100) ∈ BW := ws6_bw1256 _ mm8
theorem bw1265 : Cond.constantLong RX2 45 (399) ∈ BW := ws6_bw1256 _ mm9
theorem bw1266 : Cond.constantLong RX2 47 (400) ∈ BW := ws6_bw1256 _ mm10
theorem bw1267 : Cond.constantLong RX2 57 (1970) ∈ BW := ws6_bw1256 _ mm11
theorem bw1268 : Cond.methodLink RX2 59 yX2_inYear ∈ BW := ws6_bw1256 _ mm12
theorem bw1269 : Cond.static yX2_inYear ∈ BW := ws6_bw1256 _ mm13
theorem bw1270 : Cond.code yX2_inYear cX2_inYear 5 (some .int) ∈ BW := ws6_bw1256 _ mm14
theorem bw1271 : Cond.methodLink RX2 101 yX2_weekDay ∈ BW := ws6_bw1256 _ mm15
theorem bw1272 : Cond.static yX2_weekDay ∈ BW := ws6_bw1256 _ mm16
theorem bw1273 : Cond.code yX2_weekDay cX2_weekDay 2 (some .int) ∈ BW := ws6_bw1256 _ mm17
theorem bw1274 : Cond.constantLong RX2 68 (7) ∈ BW := ws6_bw1256 _ mm18
theorem bw1279 : Cond.constant RX2 167 (-10000000) ∈ BW := ws6_bw1256 _ mm19
theorem bw1280 : Cond.constant RX2 168 (10000000) ∈ BW := ws6_bw1256 _ mm20
theorem bw1281 : Cond.methodLink RX2 138 yX2_becomeDay ∈ BW := ws6_bw1256 _ mm21
theorem bw1283 : Cond.instanceMethod yX2_becomeDay ∈ BW := ws6_bw1256 _ mm22
theorem bw1284 : Cond.code yX2_becomeDay cX2_becomeDay 7 (some .int) ∈ BW := ws6_bw1256 _ mm23
set_option maxRecDepth 10000 in
theorem ws6_bw1285 : ∀ w : Cond, w ∈ [Cond.methodLink RX2 115 yX2_dateOf, Cond.static yX2_dateOf, Cond.code yX2_dateOf cX2_dateOf 6 (some (.array .int)), Cond.constantLong RX2 63 (146097), Cond.methodLink RX2 65 yX2_daysOf_, Cond.static yX2_daysOf_, Cond.code yX2_daysOf_ cX2_daysOf_ 1 (some .int), Cond.methodLink RX2 134 yX2_becomeMonth, Cond.instanceMethod yX2_becomeMonth, Cond.code yX2_becomeMonth cX2_becomeMonth 5 (some .int), Cond.constantLong RX2 123 (-9999), Cond.constantLong RX2 125 (9999), Cond.methodLink RX2 127 yJ9_min_7cf53, Cond.constantLong RX2 78 (3600000000000), Cond.constantLong RX2 169 (24), Cond.methodLink RX2 171 yX2_withPart, Cond.instanceMethod yX2_withPart, Cond.code yX2_withPart cX2_withPart 10 (some .int), Cond.constantLong RX2 76 (60000000000), Cond.methodLink RX2 175 yX2_nanosOf, Cond.static yX2_nanosOf, Cond.code yX2_nanosOf cX2_nanosOf 1 (some .long), Cond.constantLong RX2 70 (1000), Cond.constantLong RX2 72 (1000000)] → w ∈ BW := mS6 29 (List.Sublist.cons₂ _ (List.Sublist.cons₂ _ (List.Sublist.cons₂ _ (List.Sublist.cons₂ _ (List.Sublist.cons₂ _ (List.Sublist.cons₂ _ (List.Sublist.cons₂ _ (List.Sublist.cons _ (List.Sublist.cons _ (List.Sublist.cons _ (List.Sublist.cons _ (List.Sublist.cons _ (List.Sublist.cons _ (List.Sublist.cons _ (List.Sublist.cons _ (List.Sublist.cons _ (List.Sublist.cons _ (List.Sublist.cons _ (List.Sublist.cons _ (List.Sublist.cons _ (List.Sublist.cons _ (List.Sublist.cons _ (List.Sublist.cons _ (List.Sublist.cons₂ _ (List.Sublist.cons _ (List.Sublist.cons₂ _ (List.Sublist.cons₂ _ (List.Sublist.cons₂ _ (List.Sublist.cons₂ _ (List.Sublist.cons₂ _ (List.Sublist.cons _ (List.Sublist.cons _ (List.Sublist.cons _ (List.Sublist.cons _ (List.Sublist.cons _ (List.Sublist.cons _ (List.Sublist.cons _ (List.Sublist.cons _ (List.Sublist.cons _ (List.Sublist.cons _ (List.Sublist.cons _ (List.Sublist.cons _ (List.Sublist.cons _ (List.Sublist.cons _ (List.Sublist.cons _ (List.Sublist.cons _ (List.Sublist.cons₂ _ (List.Sublist.cons₂ _ (List.Sublist.cons₂ _ (List.Sublist.cons _ (List.Sublist.cons₂ _ (List.Sublist.cons₂ _ (List.Sublist.cons _ (List.Sublist.cons _ (List.Sublist.cons _ (List.Sublist.cons _ (List.Sublist.cons₂ _ (List.Sublist.cons _ (List.Sublist.cons _ (List.Sublist.cons _ (List.Sublist.cons _ (List.Sublist.cons _ (List.Sublist.cons _ (List.Sublist.cons _ (List.Sublist.cons _ (List.Sublist.cons _ (List.Sublist.cons _ (List.Sublist.cons _ (List.Sublist.cons _ (List.Sublist.cons₂ _ (List.Sublist.cons₂ _ (List.Sublist.cons₂ _ (List.Sublist.cons₂ _ (List.Sublist.cons₂ _ (List.nil_sublist _))))))))))))))))))))))))))))))))))))))))))))))))))))))))))))))))))))))))))) (by decide +kernel)
theorem bw1285 : Cond.methodLink RX2 115 yX2_dateOf ∈ BW := ws6_bw1285 _ mm0
theorem bw1286 : Cond.static yX2_dateOf ∈ BW := ws6_bw1285 _ mm1
theorem bw1287 : Cond.code yX2_dateOf cX2_dateOf 6 (some (.array .int)) ∈ BW := ws6_bw1285 _ mm2
theorem bw1288 : Cond.constantLong RX2 63 (146097) ∈ BW := ws6_bw1285 _ mm3
theorem bw1289 : Cond.methodLink RX2 65 yX2_daysOf_ ∈ BW := ws6_bw1285 _ mm4
theorem bw1290 : Cond.static yX2_daysOf_ ∈ BW := ws6_bw1285 _ mm5
theorem bw1291 : Cond.code yX2_daysOf_ cX2_daysOf_ 1 (some .int) ∈ BW := ws6_bw1285 _ mm6
theorem bw1308 : Cond.methodLink RX2 134 yX2_becomeMonth ∈ BW := ws6_bw1285 _ mm7
theorem bw1310 : Cond.instanceMethod yX2_becomeMonth ∈ BW := ws6_bw1285 _ mm8
theorem bw1311 : Cond.code yX2_becomeMonth cX2_becomeMonth 5 (some .int) ∈ BW := ws6_bw1285 _ mm9
theorem bw1312 : Cond.constantLong RX2 123 (-9999) ∈ BW := ws6_bw1285 _ mm10
theorem bw1313 : Cond.constantLong RX2 125 (9999) ∈ BW := ws6_bw1285 _ mm11
theorem bw1314 : Cond.methodLink RX2 127 yJ9_min_7cf53 ∈ BW := ws6_bw1285 _ mm12
theorem bw1331 : Cond.constantLong RX2 78 (3600000000000) ∈ BW := ws6_bw1285 _ mm13
theorem bw1332 : Cond.constantLong RX2 169 (24) ∈ BW := ws6_bw1285 _ mm14
theorem bw1333 : Cond.methodLink RX2 171 yX2_withPart ∈ BW := ws6_bw1285 _ mm15
theorem bw1335 : Cond.instanceMethod yX2_withPart ∈ BW := ws6_bw1285 _ mm16
theorem bw1336 : Cond.code yX2_withPart cX2_withPart 10 (some .int) ∈ BW := ws6_bw1285 _ mm17
theorem bw1341 : Cond.constantLong RX2 76 (60000000000) ∈ BW := ws6_bw1285 _ mm18
theorem bw1354 : Cond.methodLink RX2 175 yX2_nanosOf ∈ BW := ws6_bw1285 _ mm19
theorem bw1355 : Cond.static yX2_nanosOf ∈ BW := ws6_bw1285 _ mm20
theorem bw1356 : Cond.code yX2_nanosOf cX2_nanosOf 1 (some .long) ∈ BW := ws6_bw1285 _ mm21
theorem bw1357 : Cond.constantLong RX2 70 (1000) ∈ BW := ws6_bw1285 _ mm22
theorem bw1358 : Cond.constantLong RX2 72 (1000000) ∈ BW := ws6_bw1285 _ mm23
set_option maxRecDepth 10000 in
theorem ws6_bw1359 : ∀ w : Cond, w ∈ [Cond.constantLong RX2 80 (43200000000000), Cond.constantLong RX2 82 (86400000000000), Cond.constantLong RX2 84 (604800000000000), Cond.constant RX2 178 (-100000000), Cond.constant RX2 179 (100000000), Cond.constantLong RX2 132 (12), Cond.methodLink RX2 180 yX2_onMonths, Cond.instanceMethod yX2_onMonths, Cond.code yX2_onMonths cX2_onMonths 8 (some .int), Cond.methodLink RX2 184 yX2_onLine, Cond.instanceMethod yX2_onLine, Cond.code yX2_onLine cX2_onLine 12 (some .int)] → w ∈ BW := mS6 103 (List.Sublist.cons₂ _ (List.Sublist.cons₂ _ (List.Sublist.cons₂ _ (List.Sublist.cons _ (List.Sublist.cons _ (List.Sublist.cons _ (List.Sublist.cons _ (List.Sublist.cons₂ _ (List.Sublist.cons₂ _ (List.Sublist.cons₂ _ (List.Sublist.cons₂ _ (List.Sublist.cons _ (List.Sublist.cons₂ _ (List.Sublist.cons₂ _ (List.Sublist.cons _ (List.Sublist.cons _ (List.Sublist.cons _ (List.Sublist.cons _ (List.Sublist.cons _ (List.Sublist.cons _ (List.Sublist.cons _ (List.Sublist.cons _ (List.Sublist.cons₂ _ (List.Sublist.cons _ (List.Sublist.cons₂ _ (List.Sublist.cons₂ _ (List.nil_sublist _))))))))))))))))))))))))))) (by decide +kernel)
theorem bw1359 : Cond.constantLong RX2 80 (43200000000000) ∈ BW := ws6_bw1359 _ mm0
theorem bw1360 : Cond.constantLong RX2 82 (86400000000000) ∈ BW := ws6_bw1359 _ mm1
theorem bw1361 : Cond.constantLong RX2 84 (604800000000000) ∈ BW := ws6_bw1359 _ mm2
theorem bw1366 : Cond.constant RX2 178 (-100000000) ∈ BW := ws6_bw1359 _ mm3
theorem bw1367 : Cond.constant RX2 179 (100000000) ∈ BW := ws6_bw1359 _ mm4
theorem bw1368 : Cond.constantLong RX2 132 (12) ∈ BW := ws6_bw1359 _ mm5
theorem bw1369 : Cond.methodLink RX2 180 yX2_onMonths ∈ BW := ws6_bw1359 _ mm6
theorem bw1371 : Cond.instanceMethod yX2_onMonths ∈ BW := ws6_bw1359 _ mm7
theorem bw1372 : Cond.code yX2_onMonths cX2_onMonths 8 (some .int) ∈ BW := ws6_bw1359 _ mm8
theorem bw1381 : Cond.methodLink RX2 184 yX2_onLine ∈ BW := ws6_bw1359 _ mm9
theorem bw1383 : Cond.instanceMethod yX2_onLine ∈ BW := ws6_bw1359 _ mm10
theorem bw1384 : Cond.code yX2_onLine cX2_onLine 12 (some .int) ∈ BW := ws6_bw1359 _ mm11
set_option maxRecDepth 10000 in
theorem ws6_bw1405 : ∀ w : Cond, w ∈ [Cond.constantLong RX2 187 (-12), Cond.constantLong RX2 189 (-7)] → w ∈ BW := mS6 149 (List.Sublist.cons₂ _ (List.Sublist.cons _ (List.Sublist.cons _ (List.Sublist.cons _ (List.Sublist.cons _ (List.Sublist.cons _ (List.Sublist.cons _ (List.Sublist.cons _ (List.Sublist.cons _ (List.Sublist.cons₂ _ (List.nil_sublist _))))))))))) (by decide +kernel)
theorem bw1405 : Cond.constantLong RX2 187 (-12) ∈ BW := ws6_bw1405 _ mm0
theorem bw1414 : Cond.constantLong RX2 189 (-7) ∈ BW := ws6_bw1405 _ mm1
set_option maxRecDepth 10000 in
theorem ws6_bw1443 : ∀ w : Cond, w ∈ [Cond.constant RX2 191 (-100000), Cond.constant RX2 192 (100000), Cond.methodLink RX2 193 yX2_monthsOf, Cond.static yX2_monthsOf, Cond.code yX2_monthsOf cX2_monthsOf 1 (some .int), Cond.methodLink RX2 196 yX2_inYearNow, Cond.instanceMethod yX2_inYearNow, Cond.code yX2_inYearNow cX2_inYearNow 2 (some .int), Cond.methodLink RX2 199 yX2_part, Cond.instanceMethod yX2_part, Cond.code yX2_part cX2_part 6 (some .int)] → w ∈ BW := mS6 187 (List.Sublist.cons₂ _ (List.Sublist.cons₂ _ (List.Sublist.cons₂ _ (List.Sublist.cons₂ _ (List.Sublist.cons₂ _ (List.Sublist.cons _ (List.Sublist.cons _ (List.Sublist.cons _ (List.Sublist.cons _ (List.Sublist.cons _ (List.Sublist.cons _ (List.Sublist.cons _ (List.Sublist.cons _ (List.Sublist.cons _ (List.Sublist.cons _ (List.Sublist.cons _ (List.Sublist.cons _ (List.Sublist.cons _ (List.Sublist.cons _ (List.Sublist.cons _ (List.Sublist.cons _ (List.Sublist.cons₂ _ (List.Sublist.cons _ (List.Sublist.cons₂ _ (List.Sublist.cons₂ _ (List.Sublist.cons _ (List.Sublist.cons _ (List.Sublist.cons _ (List.Sublist.cons _ (List.Sublist.cons _ (List.Sublist.cons _ (List.Sublist.cons _ (List.Sublist.cons _ (List.Sublist.cons₂ _ (List.Sublist.cons _ (List.Sublist.cons₂ _ (List.Sublist.cons₂ _ (List.nil_sublist _)))))))))))))))))))))))))))))))))))))) (by decide +kernel)
theorem bw1443 : Cond.constant RX2 191 (-100000) ∈ BW := ws6_bw1443 _ mm0
theorem bw1444 : Cond.constant RX2 192 (100000) ∈ BW := ws6_bw1443 _ mm1
theorem bw1445 : Cond.methodLink RX2 193 yX2_monthsOf ∈ BW := ws6_bw1443 _ mm2
theorem bw1446 : Cond.static yX2_monthsOf ∈ BW := ws6_bw1443 _ mm3
theorem bw1447 : Cond.code yX2_monthsOf cX2_monthsOf 1 (some .int) ∈ BW := ws6_bw1443 _ mm4
theorem bw1464 : Cond.methodLink RX2 196 yX2_inYearNow ∈ BW := ws6_bw1443 _ mm5
theorem bw1466 : Cond.instanceMethod yX2_inYearNow ∈ BW := ws6_bw1443 _ mm6
theorem bw1467 : Cond.code yX2_inYearNow cX2_inYearNow 2 (some .int) ∈ BW := ws6_bw1443 _ mm7
theorem bw1476 : Cond.methodLink RX2 199 yX2_part ∈ BW := ws6_bw1443 _ mm8
theorem bw1478 : Cond.instanceMethod yX2_part ∈ BW := ws6_bw1443 _ mm9
theorem bw1479 : Cond.code yX2_part cX2_part 6 (some .int) ∈ BW := ws6_bw1443 _ mm10
set_option maxRecDepth 10000 in
theorem ws7_bw1500 : ∀ w : Cond, w ∈ [Cond.constantLong RX2 202 (86400)] → w ∈ BW := mS7 4 (List.Sublist.cons₂ _ (List.nil_sublist _)) (by decide +kernel)
theorem bw1500 : Cond.constantLong RX2 202 (86400) ∈ BW := ws7_bw1500 _ mm0
set_option maxRecDepth 10000 in
theorem ws7_bw1561 : ∀ w : Cond, w ∈ [Cond.methodLink RX2 227 yX2_order, Cond.instanceMethod yX2_order, Cond.code yX2_order cX2_order 7 (some .int)] → w ∈ BW := mS7 65 (List.Sublist.cons₂ _ (List.Sublist.cons _ (List.Sublist.cons₂ _ (List.Sublist.cons₂ _ (List.nil_sublist _))))) (by decide +kernel)
theorem bw1561 : Cond.methodLink RX2 227 yX2_order ∈ BW := ws7_bw1561 _ mm0
theorem bw1563 : Cond.instanceMethod yX2_order ∈ BW := ws7_bw1561 _ mm1
theorem bw1564 : Cond.code yX2_order cX2_order 7 (some .int) ∈ BW := ws7_bw1561 _ mm2
set_option maxRecDepth 10000 in
theorem ws7_bw1588 : ∀ w : Cond, w ∈ [Cond.methodLink RX2 240 yX2_monthsOn, Cond.instanceMethod yX2_monthsOn, Cond.code yX2_monthsOn cX2_monthsOn 6 (some .long), Cond.methodLink RX2 259 yX2_houseNow, Cond.instanceMethod yX2_houseNow, Cond.code yX2_houseNow cX2_houseNow 2 (some .int), Cond.methodLink RX2 250 yX2_likeOnes, Cond.instanceMethod yX2_likeOnes, Cond.code yX2_likeOnes cX2_likeOnes 5 (some .int), Cond.methodLink RX2 253 yX2_outer, Cond.instanceMethod yX2_outer, Cond.code yX2_outer cX2_outer 4 (some .int)] → w ∈ BW := mS7 92 (List.Sublist.cons₂ _ (List.Sublist.cons _ (List.Sublist.cons₂ _ (List.Sublist.cons₂ _ (List.Sublist.cons _ (List.Sublist.cons _ (List.Sublist.cons _ (List.Sublist.cons _ (List.Sublist.cons _ (List.Sublist.cons _ (List.Sublist.cons _ (List.Sublist.cons _ (List.Sublist.cons _ (List.Sublist.cons _ (List.Sublist.cons _ (List.Sublist.cons _ (List.Sublist.cons₂ _ (List.Sublist.cons _ (List.Sublist.cons₂ _ (List.Sublist.cons₂ _ (List.Sublist.cons₂ _ (List.Sublist.cons _ (List.Sublist.cons₂ _ (List.Sublist.cons₂ _ (List.Sublist.cons₂ _ (List.Sublist.cons _ (List.Sublist.cons₂ _ (List.Sublist.cons₂ _ (List.nil_sublist _))))))))))))))))))))))))))))) (by decide +kernel)
theorem bw1588 : Cond.methodLink RX2 240 yX2_monthsOn ∈ BW := ws7_bw1588 _ mm0
theorem bw1590 : Cond.instanceMethod yX2_monthsOn ∈ BW := ws7_bw1588 _ mm1
theorem bw1591 : Cond.code yX2_monthsOn cX2_monthsOn 6 (some .long) ∈ BW := ws7_bw1588 _ mm2
theorem bw1604 : Cond.methodLink RX2 259 yX2_houseNow ∈ BW := ws7_bw1588 _ mm3
theorem bw1606 : Cond.instanceMethod yX2_houseNow ∈ BW := ws7_bw1588 _ mm4
theorem bw1607 : Cond.code yX2_houseNow cX2_houseNow 2 (some .int) ∈ BW := ws7_bw1588 _ mm5
theorem bw1608 : Cond.methodLink RX2 250 yX2_likeOnes ∈ BW := ws7_bw1588 _ mm6
theorem bw1610 : Cond.instanceMethod yX2_likeOnes ∈ BW := ws7_bw1588 _ mm7
theorem bw1611 : Cond.code yX2_likeOnes cX2_likeOnes 5 (some .int) ∈ BW := ws7_bw1588 _ mm8
theorem bw1612 : Cond.methodLink RX2 253 yX2_outer ∈ BW := ws7_bw1588 _ mm9
theorem bw1614 : Cond.instanceMethod yX2_outer ∈ BW := ws7_bw1588 _ mm10
theorem bw1615 : Cond.code yX2_outer cX2_outer 4 (some .int) ∈ BW := ws7_bw1588 _ mm11
theorem inB_X0 : ∀ w ∈ u_ws RX0 TX0 12, w ∈ BW := by
  have h : u_ws RX0 TX0 12 = [.laysFinal "Daytimepair" "Daytimepair" "years" "[I", .laysFinal "Daytimepair" "Daytimepair" "months" "[I", .laysFinal "Daytimepair" "Daytimepair" "monthDays" "[I", .laysFinal "Daytimepair" "Daytimepair" "days" "[J", .laysFinal "Daytimepair" "Daytimepair" "nanos" "[J", .lays "Daytimepair" "Daytimepair" "handHour" "I", .lays "Daytimepair" "Daytimepair" "handMinute" "I", .lays "Daytimepair" "Daytimepair" "handSecond" "I", .lays "Daytimepair" "Daytimepair" "handNano" "I", .lays "Daytimepair" "Daytimepair" "changes" "I", .lays "Daytimepair" "Daytimepair" "refusals" "I", .lays "Daytimepair" "Daytimepair" "knocks" "I"] := rfl
  rw [h]
  exact List.forall_mem_cons.mpr ⟨bw106, List.forall_mem_cons.mpr ⟨bw108, List.forall_mem_cons.mpr ⟨bw110, List.forall_mem_cons.mpr ⟨bw112, List.forall_mem_cons.mpr ⟨bw114, List.forall_mem_cons.mpr ⟨bw116, List.forall_mem_cons.mpr ⟨bw118, List.forall_mem_cons.mpr ⟨bw120, List.forall_mem_cons.mpr ⟨bw122, List.forall_mem_cons.mpr ⟨bw124, List.forall_mem_cons.mpr ⟨bw126, List.forall_mem_cons.mpr ⟨bw128, fun _ h => absurd h List.not_mem_nil⟩⟩⟩⟩⟩⟩⟩⟩⟩⟩⟩⟩
theorem inB_X2 : ∀ w ∈ u_ws RX2 TX2 12, w ∈ BW := by
  have h : u_ws RX2 TX2 12 = [.lays "DaytimepairModel" "DaytimepairModel" "thrown" "I", .laysFinal "DaytimepairModel" "DaytimepairModel" "years" "[I", .laysFinal "DaytimepairModel" "DaytimepairModel" "months" "[I", .laysFinal "DaytimepairModel" "DaytimepairModel" "days" "[I", .laysFinal "DaytimepairModel" "DaytimepairModel" "times" "[J", .lays "DaytimepairModel" "DaytimepairModel" "handHour" "I", .lays "DaytimepairModel" "DaytimepairModel" "handMinute" "I", .lays "DaytimepairModel" "DaytimepairModel" "handSecond" "I", .lays "DaytimepairModel" "DaytimepairModel" "handNano" "I", .lays "DaytimepairModel" "DaytimepairModel" "done" "I", .lays "DaytimepairModel" "DaytimepairModel" "refused" "I", .lays "DaytimepairModel" "DaytimepairModel" "knocks" "I"] := rfl
  rw [h]
  exact List.forall_mem_cons.mpr ⟨bw1175, List.forall_mem_cons.mpr ⟨bw1177, List.forall_mem_cons.mpr ⟨bw1179, List.forall_mem_cons.mpr ⟨bw1181, List.forall_mem_cons.mpr ⟨bw1183, List.forall_mem_cons.mpr ⟨bw1185, List.forall_mem_cons.mpr ⟨bw1187, List.forall_mem_cons.mpr ⟨bw1189, List.forall_mem_cons.mpr ⟨bw1191, List.forall_mem_cons.mpr ⟨bw1193, List.forall_mem_cons.mpr ⟨bw1195, List.forall_mem_cons.mpr ⟨bw1197, fun _ h => absurd h List.not_mem_nil⟩⟩⟩⟩⟩⟩⟩⟩⟩⟩⟩⟩
theorem F_X0_isLeapYear : CF yX0_isLeapYear cX0_isLeapYear 1 (some .boolean) 1 := ⟨bw177, bw57, plainFor_of_name pnN_RX0, nhN_RX0.1, nhN_RX0.2, pdN_0⟩
theorem F_J9_floorDiv_7cf53 : CF yJ9_floorDiv_7cf53 cJ9_floorDiv_7cf53 3 (some .int) 2 := ⟨bw91, bw58, pfM rfl (by decide +kernel), nhN_RJ9.1, nhN_RJ9.2, pdN_1⟩
theorem F_X0_firstDayOf : CF yX0_firstDayOf cX0_firstDayOf 3 (some .long) 1 := ⟨bw88, bw57, plainFor_of_name pnN_RX0, nhN_RX0.1, nhN_RX0.2, pdN_2⟩
theorem F_X0_daysAhead : CF yX0_daysAhead cX0_daysAhead 3 (some .int) 2 := ⟨bw172, bw57, plainFor_of_name pnN_RX0, nhN_RX0.1, nhN_RX0.2, pdN_1⟩
theorem F_J9_floorDiv_f86c9 : CF yJ9_floorDiv_f86c9 cJ9_floorDiv_f86c9 6 (some .long) 2 := ⟨bw193, bw58, pfM rfl (by decide +kernel), nhN_RJ9.1, nhN_RJ9.2, pdN_3⟩
theorem F_J9_floorMod_f86c9 : CF yJ9_floorMod_f86c9 cJ9_floorMod_f86c9 6 (some .long) 2 := ⟨bw197, bw58, pfM rfl (by decide +kernel), nhN_RJ9.1, nhN_RJ9.2, pdN_3⟩
theorem F_X0_nanosOfUnit : CF yX0_nanosOfUnit cX0_nanosOfUnit 1 (some .long) 1 := ⟨bw225, bw57, plainFor_of_name pnN_RX0, nhN_RX0.1, nhN_RX0.2, pdN_2⟩
theorem F_X0_quotient : CF yX0_quotient cX0_quotient 4 (some .long) 2 := ⟨bw231, bw57, plainFor_of_name pnN_RX0, nhN_RX0.1, nhN_RX0.2, pdN_3⟩
theorem F_X0_hourOf : CF yX0_hourOf cX0_hourOf 2 (some .int) 1 := ⟨bw151, bw57, plainFor_of_name pnN_RX0, nhN_RX0.1, nhN_RX0.2, pdN_4⟩
theorem F_X0_nanoOfSecond : CF yX0_nanoOfSecond cX0_nanoOfSecond 2 (some .int) 1 := ⟨bw163, bw57, plainFor_of_name pnN_RX0, nhN_RX0.1, nhN_RX0.2, pdN_4⟩
theorem F_X0_secondOf : CF yX0_secondOf cX0_secondOf 2 (some .int) 1 := ⟨bw159, bw57, plainFor_of_name pnN_RX0, nhN_RX0.1, nhN_RX0.2, pdN_4⟩
theorem F_X0_minuteOf : CF yX0_minuteOf cX0_minuteOf 2 (some .int) 1 := ⟨bw155, bw57, plainFor_of_name pnN_RX0, nhN_RX0.1, nhN_RX0.2, pdN_4⟩
theorem F_X0_cutNano : CF yX0_cutNano cX0_cutNano 5 (some .long) 2 := ⟨bw222, bw57, plainFor_of_name pnN_RX0, nhN_RX0.1, nhN_RX0.2, pdN_5⟩
theorem F_X2_isLeapYear : CF yX2_isLeapYear cX2_isLeapYear 1 (some .boolean) 1 := ⟨bw1228, bw59, plainFor_of_name pnN_RX2, nhN_RX2.1, nhN_RX2.2, pdN_0⟩
theorem F_X2_floor : CF yX2_floor cX2_floor 6 (some .long) 2 := ⟨bw1262, bw59, plainFor_of_name pnN_RX2, nhN_RX2.1, nhN_RX2.2, pdN_3⟩
theorem F_X2_isFrom : CF yX2_isFrom cX2_isFrom 3 (some .boolean) 3 := ⟨bw1210, bw59, plainFor_of_name pnN_RX2, nhN_RX2.1, nhN_RX2.2, pdN_6⟩
theorem F_X2_daysOf : CF yX2_daysOf cX2_daysOf 2 (some .int) 2 := ⟨bw1225, bw59, plainFor_of_name pnN_RX2, nhN_RX2.1, nhN_RX2.2, pdN_1⟩
theorem F_X2_ahead : CF yX2_ahead cX2_ahead 2 (some .long) 1 := ⟨bw1256, bw59, plainFor_of_name pnN_RX2, nhN_RX2.1, nhN_RX2.2, pdN_7⟩
theorem F_X2_inYear : CF yX2_inYear cX2_inYear 5 (some .int) 3 := ⟨bw1270, bw59, plainFor_of_name pnN_RX2, nhN_RX2.1, nhN_RX2.2, pdN_8⟩
theorem F_X0_timeOf : CF yX0_timeOf cX0_timeOf 4 (some .long) 4 := ⟨bw166, bw57, plainFor_of_name pnN_RX0, nhN_RX0.1, nhN_RX0.2, pdN_9⟩
theorem F_J9_abs_067f4 : CF yJ9_abs_067f4 cJ9_abs_067f4 2 (some .long) 1 := ⟨bw811, bw58, pfM rfl (by decide +kernel), nhN_RJ9.1, nhN_RJ9.2, pdN_7⟩
theorem F_X0_monthCount : CF yX0_monthCount cX0_monthCount 2 (some .long) 1 := ⟨bw551, bw57, plainFor_of_name pnN_RX0, nhN_RX0.1, nhN_RX0.2, pdN_2⟩
theorem F_X0_order : CF yX0_order cX0_order 3 (some .int) 2 := ⟨bw239, bw57, plainFor_of_name pnN_RX0, nhN_RX0.1, nhN_RX0.2, pdN_1⟩
theorem F_X0_wholeMonths : CF yX0_wholeMonths cX0_wholeMonths 6 (some .long) 2 := ⟨bw1142, bw57, plainFor_of_name pnN_RX0, nhN_RX0.1, nhN_RX0.2, pdN_10⟩
theorem F_X0_isSameLine : CF yX0_isSameLine cX0_isSameLine 3 (some .boolean) 2 := ⟨bw243, bw57, plainFor_of_name pnN_RX0, nhN_RX0.1, nhN_RX0.2, pdN_11⟩
theorem F_X0_isRepeated : CF yX0_isRepeated cX0_isRepeated 3 (some .boolean) 1 := ⟨bw281, bw57, plainFor_of_name pnN_RX0, nhN_RX0.1, nhN_RX0.2, pdN_0⟩
theorem F_X0_countRepeated : CF yX0_countRepeated cX0_countRepeated 3 (some .int) 0 := ⟨bw277, bw57, plainFor_of_name pnN_RX0, nhN_RX0.1, nhN_RX0.2, pdN_12⟩
theorem F_X0_outermost : CF yX0_outermost cX0_outermost 4 (some .int) 1 := ⟨bw285, bw57, plainFor_of_name pnN_RX0, nhN_RX0.1, nhN_RX0.2, pdN_13⟩
theorem F_X0_mix : CF yX0_mix cX0_mix 4 (some .long) 2 := ⟨bw260, bw57, plainFor_of_name pnN_RX0, nhN_RX0.1, nhN_RX0.2, pdN_3⟩
theorem F_X0_yearDay : CF yX0_yearDay cX0_yearDay 2 (some .int) 1 := ⟨bw185, bw57, plainFor_of_name pnN_RX0, nhN_RX0.1, nhN_RX0.2, pdN_13⟩
theorem F_X0_weekday : CF yX0_weekday cX0_weekday 2 (some .int) 1 := ⟨bw264, bw57, plainFor_of_name pnN_RX0, nhN_RX0.1, nhN_RX0.2, pdN_4⟩
theorem F_X0_dayOf : CF yX0_dayOf cX0_dayOf 3 (some .long) 3 := ⟨bw169, bw57, plainFor_of_name pnN_RX0, nhN_RX0.1, nhN_RX0.2, pdN_14⟩
theorem F_X0_isLineLess : CF yX0_isLineLess cX0_isLineLess 10 (some .boolean) 4 := ⟨bw201, bw57, plainFor_of_name pnN_RX0, nhN_RX0.1, nhN_RX0.2, pdN_15⟩
theorem F_X0_monthLength : CF yX0_monthLength cX0_monthLength 2 (some .int) 2 := ⟨bw212, bw57, plainFor_of_name pnN_RX0, nhN_RX0.1, nhN_RX0.2, pdN_1⟩
theorem F_J9_min_7cf53 : CF yJ9_min_7cf53 cJ9_min_7cf53 2 (some .int) 2 := ⟨bw215, bw58, pfM rfl (by decide +kernel), nhN_RJ9.1, nhN_RJ9.2, pdN_1⟩
theorem F_X0_isItsParts : CF yX0_isItsParts cX0_isItsParts 6 (some .boolean) 1 := ⟨bw148, bw57, plainFor_of_name pnN_RX0, nhN_RX0.1, nhN_RX0.2, pdN_0⟩
theorem F_X0_isItsDateAndTime : CF yX0_isItsDateAndTime cX0_isItsDateAndTime 6 (some .boolean) 1 := ⟨bw181, bw57, plainFor_of_name pnN_RX0, nhN_RX0.1, nhN_RX0.2, pdN_0⟩
theorem F_X0_isBackFromNano : CF yX0_isBackFromNano cX0_isBackFromNano 6 (some .boolean) 1 := ⟨bw189, bw57, plainFor_of_name pnN_RX0, nhN_RX0.1, nhN_RX0.2, pdN_0⟩
theorem F_X0_isBackFromDay : CF yX0_isBackFromDay cX0_isBackFromDay 2 (some .boolean) 1 := ⟨bw205, bw57, plainFor_of_name pnN_RX0, nhN_RX0.1, nhN_RX0.2, pdN_0⟩
theorem F_X0_isBackFromCycle : CF yX0_isBackFromCycle cX0_isBackFromCycle 4 (some .boolean) 1 := ⟨bw209, bw57, plainFor_of_name pnN_RX0, nhN_RX0.1, nhN_RX0.2, pdN_0⟩
theorem F_X0_isCutWell : CF yX0_isCutWell cX0_isCutWell 5 (some .boolean) 1 := ⟨bw219, bw57, plainFor_of_name pnN_RX0, nhN_RX0.1, nhN_RX0.2, pdN_16⟩
theorem F_X0_gapInUnits : CF yX0_gapInUnits cX0_gapInUnits 10 (some .long) 3 := ⟨bw247, bw57, plainFor_of_name pnN_RX0, nhN_RX0.1, nhN_RX0.2, pdN_14⟩
theorem F_X2_dayOf : CF yX2_dayOf cX2_dayOf 3 (some .long) 3 := ⟨bw1253, bw59, plainFor_of_name pnN_RX2, nhN_RX2.1, nhN_RX2.2, pdN_14⟩
theorem F_X2_dayNow : CF yX2_dayNow cX2_dayNow 2 (some .long) 1 := ⟨bw1250, bw59, plainFor_of_name pnN_RX2, nhN_RX2.1, nhN_RX2.2, pdN_2⟩
theorem F_X2_weekDay : CF yX2_weekDay cX2_weekDay 2 (some .int) 1 := ⟨bw1273, bw59, plainFor_of_name pnN_RX2, nhN_RX2.1, nhN_RX2.2, pdN_4⟩
theorem F_X2_nanosOf : CF yX2_nanosOf cX2_nanosOf 1 (some .long) 1 := ⟨bw1356, bw59, plainFor_of_name pnN_RX2, nhN_RX2.1, nhN_RX2.2, pdN_2⟩
theorem F_X2_part : CF yX2_part cX2_part 6 (some .int) 3 := ⟨bw1479, bw59, plainFor_of_name pnN_RX2, nhN_RX2.1, nhN_RX2.2, pdN_17⟩
theorem F_X2_inYearNow : CF yX2_inYearNow cX2_inYearNow 2 (some .int) 1 := ⟨bw1467, bw59, plainFor_of_name pnN_RX2, nhN_RX2.1, nhN_RX2.2, pdN_13⟩
theorem F_X2_weekDayNow : CF yX2_weekDayNow cX2_weekDayNow 2 (some .int) 1 := ⟨bw1246, bw59, plainFor_of_name pnN_RX2, nhN_RX2.1, nhN_RX2.2, pdN_13⟩
theorem F_X2_monthsOn : CF yX2_monthsOn cX2_monthsOn 6 (some .long) 2 := ⟨bw1591, bw59, plainFor_of_name pnN_RX2, nhN_RX2.1, nhN_RX2.2, pdN_10⟩
theorem F_X2_order : CF yX2_order cX2_order 7 (some .int) 2 := ⟨bw1564, bw59, plainFor_of_name pnN_RX2, nhN_RX2.1, nhN_RX2.2, pdN_1⟩
theorem F_X2_likeOnes : CF yX2_likeOnes cX2_likeOnes 5 (some .int) 0 := ⟨bw1611, bw59, plainFor_of_name pnN_RX2, nhN_RX2.1, nhN_RX2.2, pdN_12⟩
theorem F_X2_outer : CF yX2_outer cX2_outer 4 (some .int) 1 := ⟨bw1615, bw59, plainFor_of_name pnN_RX2, nhN_RX2.1, nhN_RX2.2, pdN_13⟩
theorem F_X0_checkMoment : CF yX0_checkMoment cX0_checkMoment 1 none 1 := ⟨bw389, bw57, plainFor_of_name pnN_RX0, nhN_RX0.1, nhN_RX0.2, pdN_18⟩
theorem F_X0_checkRange : CF yX0_checkRange cX0_checkRange 3 none 3 := ⟨bw310, bw57, plainFor_of_name pnN_RX0, nhN_RX0.1, nhN_RX0.2, pdN_19⟩
theorem F_X0_houseNumber : CF yX0_houseNumber cX0_houseNumber 2 (some .int) 1 := ⟨bw273, bw57, plainFor_of_name pnN_RX0, nhN_RX0.1, nhN_RX0.2, pdN_13⟩
theorem F_X0_isSoundAlone : CF yX0_isSoundAlone cX0_isSoundAlone 2 (some .boolean) 1 := ⟨bw144, bw57, plainFor_of_name pnN_RX0, nhN_RX0.1, nhN_RX0.2, pdN_0⟩
theorem F_X0_isSoundPair : CF yX0_isSoundPair cX0_isSoundPair 5 (some .boolean) 2 := ⟨bw235, bw57, plainFor_of_name pnN_RX0, nhN_RX0.1, nhN_RX0.2, pdN_11⟩
theorem F_X0_refuse : CF yX0_refuse cX0_refuse 1 (some .int) 0 := ⟨bw417, bw57, plainFor_of_name pnN_RX0, nhN_RX0.1, nhN_RX0.2, pdN_12⟩
theorem F_X0_yearOf : CF yX0_yearOf cX0_yearOf 3 (some .int) 1 := ⟨bw434, bw57, plainFor_of_name pnN_RX0, nhN_RX0.1, nhN_RX0.2, pdN_4⟩
theorem F_X0_monthOf : CF yX0_monthOf cX0_monthOf 3 (some .int) 2 := ⟨bw438, bw57, plainFor_of_name pnN_RX0, nhN_RX0.1, nhN_RX0.2, pdN_1⟩
theorem F_X0_becomeDate : CF yX0_becomeDate cX0_becomeDate 7 (some .int) 5 := ⟨bw413, bw57, plainFor_of_name pnN_RX0, nhN_RX0.1, nhN_RX0.2, pdN_20⟩
theorem F_X0_becomeMonth : CF yX0_becomeMonth cX0_becomeMonth 5 (some .int) 3 := ⟨bw474, bw57, plainFor_of_name pnN_RX0, nhN_RX0.1, nhN_RX0.2, pdN_8⟩
theorem F_X0_becomeDay : CF yX0_becomeDay cX0_becomeDay 9 (some .int) 3 := ⟨bw430, bw57, plainFor_of_name pnN_RX0, nhN_RX0.1, nhN_RX0.2, pdN_17⟩
theorem F_X0_goLine : CF yX0_goLine cX0_goLine 10 (some .int) 3 := ⟨bw575, bw57, plainFor_of_name pnN_RX0, nhN_RX0.1, nhN_RX0.2, pdN_17⟩
theorem F_X0_handTime : CF yX0_handTime cX0_handTime 5 (some .long) 1 := ⟨bw409, bw57, plainFor_of_name pnN_RX0, nhN_RX0.1, nhN_RX0.2, pdN_2⟩
theorem F_X0_becomeAs : CF yX0_becomeAs cX0_becomeAs 5 (some .int) 3 := ⟨bw449, bw57, plainFor_of_name pnN_RX0, nhN_RX0.1, nhN_RX0.2, pdN_21⟩
theorem F_X0_yearLength : CF yX0_yearLength cX0_yearLength 1 (some .int) 1 := ⟨bw498, bw57, plainFor_of_name pnN_RX0, nhN_RX0.1, nhN_RX0.2, pdN_13⟩
theorem F_X0_goMonths : CF yX0_goMonths cX0_goMonths 8 (some .int) 2 := ⟨bw547, bw57, plainFor_of_name pnN_RX0, nhN_RX0.1, nhN_RX0.2, pdN_22⟩
theorem F_X0_goUnits : CF yX0_goUnits cX0_goUnits 11 (some .int) 3 := ⟨bw571, bw57, plainFor_of_name pnN_RX0, nhN_RX0.1, nhN_RX0.2, pdN_23⟩
theorem F_X0_monthsOfUnit : CF yX0_monthsOfUnit cX0_monthsOfUnit 1 (some .long) 1 := ⟨bw679, bw57, plainFor_of_name pnN_RX0, nhN_RX0.1, nhN_RX0.2, pdN_2⟩
theorem F_X2_refuse : CF yX2_refuse cX2_refuse 1 (some .int) 0 := ⟨bw1232, bw59, plainFor_of_name pnN_RX2, nhN_RX2.1, nhN_RX2.2, pdN_12⟩
theorem F_X2_dateOf : CF yX2_dateOf cX2_dateOf 6 (some (.array .int)) 1 := ⟨bw1287, bw59, plainFor_of_name pnN_RX2, nhN_RX2.1, nhN_RX2.2, pdN_24⟩
theorem F_X2_become : CF yX2_become cX2_become 7 (some .int) 5 := ⟨bw1242, bw59, plainFor_of_name pnN_RX2, nhN_RX2.1, nhN_RX2.2, pdN_20⟩
theorem F_X2_becomeMonth : CF yX2_becomeMonth cX2_becomeMonth 5 (some .int) 3 := ⟨bw1311, bw59, plainFor_of_name pnN_RX2, nhN_RX2.1, nhN_RX2.2, pdN_23⟩
theorem F_X2_becomeDay : CF yX2_becomeDay cX2_becomeDay 7 (some .int) 3 := ⟨bw1284, bw59, plainFor_of_name pnN_RX2, nhN_RX2.1, nhN_RX2.2, pdN_17⟩
theorem F_X2_isNone : CF yX2_isNone cX2_isNone 1 (some .boolean) 1 := ⟨bw1218, bw59, plainFor_of_name pnN_RX2, nhN_RX2.1, nhN_RX2.2, pdN_0⟩
theorem F_X2_refuses : CF yX2_refuses cX2_refuses 3 (some .boolean) 2 := ⟨bw1222, bw59, plainFor_of_name pnN_RX2, nhN_RX2.1, nhN_RX2.2, pdN_25⟩
theorem F_X2_handTime : CF yX2_handTime cX2_handTime 4 (some .long) 1 := ⟨bw1236, bw59, plainFor_of_name pnN_RX2, nhN_RX2.1, nhN_RX2.2, pdN_2⟩
theorem F_X2_daysOf_ : CF yX2_daysOf_ cX2_daysOf_ 1 (some .int) 1 := ⟨bw1291, bw59, plainFor_of_name pnN_RX2, nhN_RX2.1, nhN_RX2.2, pdN_13⟩
theorem F_X2_withPart : CF yX2_withPart cX2_withPart 10 (some .int) 4 := ⟨bw1336, bw59, plainFor_of_name pnN_RX2, nhN_RX2.1, nhN_RX2.2, pdN_26⟩
theorem F_X2_onMonths : CF yX2_onMonths cX2_onMonths 8 (some .int) 2 := ⟨bw1372, bw59, plainFor_of_name pnN_RX2, nhN_RX2.1, nhN_RX2.2, pdN_22⟩
theorem F_X2_onLine : CF yX2_onLine cX2_onLine 12 (some .int) 3 := ⟨bw1384, bw59, plainFor_of_name pnN_RX2, nhN_RX2.1, nhN_RX2.2, pdN_17⟩
theorem F_X2_monthsOf : CF yX2_monthsOf cX2_monthsOf 1 (some .int) 1 := ⟨bw1447, bw59, plainFor_of_name pnN_RX2, nhN_RX2.1, nhN_RX2.2, pdN_13⟩
theorem F_X2_houseNow : CF yX2_houseNow cX2_houseNow 2 (some .int) 1 := ⟨bw1607, bw59, plainFor_of_name pnN_RX2, nhN_RX2.1, nhN_RX2.2, pdN_13⟩
