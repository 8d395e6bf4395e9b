theorem pdN_38 : Option.map (fun d => d.parameters.length) (parseMethodDescriptor "()B") = some 0 := by decide +kernel
theorem pdN_39 : Option.map (fun d => d.parameters.length) (parseMethodDescriptor "(Ljava/lang/String;)V") = some 1 := by decide +kernel
theorem pdN_40 : Option.map (fun d => d.parameters.length) (parseMethodDescriptor "([BIB)V") = some 3 := by decide +kernel
theorem pdN_41 : Option.map (fun d => d.parameters.length) (parseMethodDescriptor "(ILjava/lang/String;)V") = some 2 := by decide +kernel
theorem pdN_42 : Option.map (fun d => d.parameters.length) (parseMethodDescriptor "(Ljava/lang/String;)Ljava/lang/AbstractStringBuilder;") = some 1 := by decide +kernel
theorem pdN_43 : Option.map (fun d => d.parameters.length) (parseMethodDescriptor "(II)V") = some 2 := by decide +kernel
theorem pdN_44 : Option.map (fun d => d.parameters.length) (parseMethodDescriptor "([BII)[B") = some 3 := by decide +kernel
theorem pdN_45 : Option.map (fun d => d.parameters.length) (parseMethodDescriptor "()[B") = some 0 := by decide +kernel
theorem pdN_46 : Option.map (fun d => d.parameters.length) (parseMethodDescriptor "(Ljava/lang/AbstractStringBuilder;Ljava/lang/Void;)V") = some 2 := by decide +kernel
theorem pdN_47 : Option.map (fun d => d.parameters.length) (parseMethodDescriptor "(Ljava/lang/StringBuilder;)V") = some 1 := by decide +kernel
theorem pdN_48 : Option.map (fun d => d.parameters.length) (parseMethodDescriptor "()Ljava/lang/AbstractStringBuilder;") = some 0 := by decide +kernel
theorem pdN_49 : Option.map (fun d => d.parameters.length) (parseMethodDescriptor "(C)Ljava/lang/StringBuilder;") = some 1 := by decide +kernel
theorem pdN_50 : Option.map (fun d => d.parameters.length) (parseMethodDescriptor "()V") = some 0 := by decide +kernel
theorem pdN_51 : Option.map (fun d => d.parameters.length) (parseMethodDescriptor "()Ljava/lang/StringBuilder;") = some 0 := by decide +kernel
theorem pdN_52 : Option.map (fun d => d.parameters.length) (parseMethodDescriptor "()Ljava/lang/String;") = some 0 := by decide +kernel
theorem pdN_53 : Option.map (fun d => d.parameters.length) (parseMethodDescriptor "(J)Ljava/lang/String;") = some 1 := by decide +kernel
theorem pdN_54 : Option.map (fun d => d.parameters.length) (parseMethodDescriptor "(Ljava/lang/String;)Ljava/lang/StringBuilder;") = some 1 := by decide +kernel
theorem pdN_55 : Option.map (fun d => d.parameters.length) (parseMethodDescriptor "(J)Ljava/lang/StringBuilder;") = some 1 := by decide +kernel
theorem pdN_56 : Option.map (fun d => d.parameters.length) (parseMethodDescriptor "()J") = some 0 := by decide +kernel
abbrev mathD : List String := ["(II)I", "(JJ)J", "(J)J"]
theorem nt_m : Jvm.natives.all (fun r => !(r.cls == "java/lang/Math") || !(mathD.contains r.desc)) = true := by decide +kernel
theorem pfM {x : MethodName} (hc : x.cls = "java/lang/Math") (hd : mathD.contains x.desc = true) : plainFor x = true := by
  unfold plainFor
  have h : (NativeRow.find? Jvm.natives x.cls x.name x.desc).isNone = true := by
    unfold NativeRow.find?
    rw [Option.isNone_iff_eq_none, List.find?_eq_none]
    intro r hr hb
    have hb : ((r.name == x.name && r.cls == x.cls) && r.desc == x.desc) = true := hb
    have h1 : (!(r.cls == "java/lang/Math") || !(mathD.contains r.desc)) = true := List.all_eq_true.mp nt_m r hr
    rw [Bool.and_eq_true, Bool.and_eq_true] at hb
    have e2 := eq_of_beq hb.1.2
    have e3 := eq_of_beq hb.2
    rw [e2, e3, hc, hd] at h1
    exact absurd h1 (by decide)
  rw [h]
  exact Bool.or_true _
theorem mS1 {l : List Cond} (a : Nat) (hs : List.Sublist l (List.drop a tables_1_1)) (g : l.all goodWord = true) : ∀ w : Cond, w ∈ l → w ∈ BW := fun w h9 => by
  have h := (hs.trans (List.drop_sublist a tables_1_1)).subset h9
  exact lBW (List.mem_append_right _ (List.mem_append_left _ h)) (List.all_eq_true.mp g w h9)
theorem mS2 {l : List Cond} (a : Nat) (hs : List.Sublist l (List.drop a tables_1_2)) (g : l.all goodWord = true) : ∀ w : Cond, w ∈ l → w ∈ BW := fun w h9 => by
  have h := (hs.trans (List.drop_sublist a tables_1_2)).subset h9
  exact lBW (List.mem_append_right _ (List.mem_append_right _ (List.mem_append_left _ h))) (List.all_eq_true.mp g w h9)
theorem mS3 {l : List Cond} (a : Nat) (hs : List.Sublist l (List.drop a tables_1_3)) (g : l.all goodWord = true) : ∀ w : Cond, w ∈ l → w ∈ BW := fun w h9 => by
  have h := (hs.trans (List.drop_sublist a tables_1_3)).subset h9
  exact lBW (List.mem_append_right _ (List.mem_append_right _ (List.mem_append_right _ (List.mem_append_left _ h)))) (List.all_eq_true.mp g w h9)
theorem mS4 {l : List Cond} (a : Nat) (hs : List.Sublist l (List.drop a tables_1_4)) (g : l.all goodWord = true) : ∀ w : Cond, w ∈ l → w ∈ BW := fun w h9 => by
  have h := (hs.trans (List.drop_sublist a tables_1_4)).subset h9
  exact lBW (List.mem_append_right _ (List.mem_append_right _ (List.mem_append_right _ (List.mem_append_right _ (List.mem_append_left _ h))))) (List.all_eq_true.mp g w h9)
