-- ===== PART A: goes FIRST, ahead of the names: the tables' words, and 'selects' of the private methods out of them =====
/-- a private method of a class that the tables say can be made, by its rows of tables_1 -/
def lw_okq (q : MethodName × Nat) : Prop := (q.1.cls ≠ "java/lang/invoke/MethodHandle" ∧ q.1.cls ≠ "java/lang/invoke/VarHandle") ∧ Cond.instantiable q.1.cls q.2 ∈ tables_1 ∧ Cond.privateMethod q.1 ∈ tables_1 ∧ Cond.instanceMethod q.1 ∈ tables_1
theorem lw_p0 : lw_okq (⟨"Daytimepair", "isSoundAlone", "(I)Z"⟩, 12) := ⟨lwn_0, tg23, tg86, tg87⟩
theorem lw_p1 : lw_okq (⟨"Daytimepair", "isItsParts", "(I)Z"⟩, 12) := ⟨lwn_0, tg23, tg90, tg91⟩
theorem lw_p2 : lw_okq (⟨"Daytimepair", "isItsDateAndTime", "(I)Z"⟩, 12) := ⟨lwn_0, tg23, tg123, tg124⟩
theorem lw_p3 : lw_okq (⟨"Daytimepair", "yearDay", "(I)I"⟩, 12) := ⟨lwn_0, tg23, tg127, tg128⟩
theorem lw_p4 : lw_okq (⟨"Daytimepair", "isBackFromNano", "(I)Z"⟩, 12) := ⟨lwn_0, tg23, tg131, tg132⟩
theorem lw_p5 : lw_okq (⟨"Daytimepair", "isLineLess", "(IJJJ)Z"⟩, 12) := ⟨lwn_0, tg23, tg143, tg144⟩
theorem lw_p6 : lw_okq (⟨"Daytimepair", "isBackFromDay", "(I)Z"⟩, 12) := ⟨lwn_0, tg23, tg147, tg148⟩
theorem lw_p7 : lw_okq (⟨"Daytimepair", "isBackFromCycle", "(I)Z"⟩, 12) := ⟨lwn_0, tg23, tg151, tg152⟩
theorem lw_p8 : lw_okq (⟨"Daytimepair", "isSoundPair", "(II)Z"⟩, 12) := ⟨lwn_0, tg23, tg177, tg178⟩
theorem lw_p9 : lw_okq (⟨"Daytimepair", "order", "(II)I"⟩, 12) := ⟨lwn_0, tg23, tg181, tg182⟩
theorem lw_p10 : lw_okq (⟨"Daytimepair", "isSameLine", "(II)Z"⟩, 12) := ⟨lwn_0, tg23, tg185, tg186⟩
theorem lw_p11 : lw_okq (⟨"Daytimepair", "gapInUnits", "(III)J"⟩, 12) := ⟨lwn_0, tg23, tg189, tg190⟩
theorem lw_p12 : lw_okq (⟨"Daytimepair", "mixMoment", "(JI)J"⟩, 12) := ⟨lwn_0, tg23, tg199, tg200⟩
theorem lw_p13 : lw_okq (⟨"Daytimepair", "houseNumber", "(I)I"⟩, 12) := ⟨lwn_0, tg23, tg215, tg216⟩
theorem lw_p14 : lw_okq (⟨"Daytimepair", "countRepeated", "()I"⟩, 12) := ⟨lwn_0, tg23, tg219, tg220⟩
theorem lw_p15 : lw_okq (⟨"Daytimepair", "isRepeated", "(I)Z"⟩, 12) := ⟨lwn_0, tg23, tg223, tg224⟩
def lw_privs_1 : List (MethodName × Nat) := [(⟨"Daytimepair", "isSoundAlone", "(I)Z"⟩, 12), (⟨"Daytimepair", "isItsParts", "(I)Z"⟩, 12), (⟨"Daytimepair", "isItsDateAndTime", "(I)Z"⟩, 12), (⟨"Daytimepair", "yearDay", "(I)I"⟩, 12), (⟨"Daytimepair", "isBackFromNano", "(I)Z"⟩, 12), (⟨"Daytimepair", "isLineLess", "(IJJJ)Z"⟩, 12), (⟨"Daytimepair", "isBackFromDay", "(I)Z"⟩, 12), (⟨"Daytimepair", "isBackFromCycle", "(I)Z"⟩, 12), (⟨"Daytimepair", "isSoundPair", "(II)Z"⟩, 12), (⟨"Daytimepair", "order", "(II)I"⟩, 12), (⟨"Daytimepair", "isSameLine", "(II)Z"⟩, 12), (⟨"Daytimepair", "gapInUnits", "(III)J"⟩, 12), (⟨"Daytimepair", "mixMoment", "(JI)J"⟩, 12), (⟨"Daytimepair", "houseNumber", "(I)I"⟩, 12), (⟨"Daytimepair", "countRepeated", "()I"⟩, 12), (⟨"Daytimepair", "isRepeated", "(I)Z"⟩, 12)]
theorem lw_r1 : ∀ q ∈ lw_privs_1, lw_okq q := List.forall_mem_cons.mpr ⟨lw_p0, List.forall_mem_cons.mpr ⟨lw_p1, List.forall_mem_cons.mpr ⟨lw_p2, List.forall_mem_cons.mpr ⟨lw_p3, List.forall_mem_cons.mpr ⟨lw_p4, List.forall_mem_cons.mpr ⟨lw_p5, List.forall_mem_cons.mpr ⟨lw_p6, List.forall_mem_cons.mpr ⟨lw_p7, List.forall_mem_cons.mpr ⟨lw_p8, List.forall_mem_cons.mpr ⟨lw_p9, List.forall_mem_cons.mpr ⟨lw_p10, List.forall_mem_cons.mpr ⟨lw_p11, List.forall_mem_cons.mpr ⟨lw_p12, List.forall_mem_cons.mpr ⟨lw_p13, List.forall_mem_cons.mpr ⟨lw_p14, List.forall_mem_cons.mpr ⟨lw_p15, fun _ h => absurd h List.not_mem_nil⟩⟩⟩⟩⟩⟩⟩⟩⟩⟩⟩⟩⟩⟩⟩⟩
theorem lw_p16 : lw_okq (⟨"Daytimepair", "outermost", "(I)I"⟩, 12) := ⟨lwn_0, tg23, tg227, tg228⟩
theorem lw_p17 : lw_okq (⟨"java/lang/Throwable", "fillInStackTrace", "(I)Ljava/lang/Throwable;"⟩, 6) := ⟨lwn_1, tg293, tg291, tg292⟩
theorem lw_p18 : lw_okq (⟨"Daytimepair", "handTime", "(I)J"⟩, 12) := ⟨lwn_0, tg23, tg351, tg352⟩
theorem lw_p19 : lw_okq (⟨"Daytimepair", "becomeDate", "(IIIIJ)I"⟩, 12) := ⟨lwn_0, tg23, tg355, tg356⟩
theorem lw_p20 : lw_okq (⟨"Daytimepair", "refuse", "()I"⟩, 12) := ⟨lwn_0, tg23, tg359, tg360⟩
theorem lw_p21 : lw_okq (⟨"Daytimepair", "becomeDay", "(IJJ)I"⟩, 12) := ⟨lwn_0, tg23, tg372, tg373⟩
theorem lw_p22 : lw_okq (⟨"Daytimepair", "becomeAs", "(IIJ)I"⟩, 12) := ⟨lwn_0, tg23, tg391, tg392⟩
theorem lw_p23 : lw_okq (⟨"Daytimepair", "becomeMonth", "(III)I"⟩, 12) := ⟨lwn_0, tg23, tg416, tg417⟩
theorem lw_p24 : lw_okq (⟨"Daytimepair", "goMonths", "(IJ)I"⟩, 12) := ⟨lwn_0, tg23, tg489, tg490⟩
theorem lw_p25 : lw_okq (⟨"Daytimepair", "monthCount", "(I)J"⟩, 12) := ⟨lwn_0, tg23, tg493, tg494⟩
theorem lw_p26 : lw_okq (⟨"Daytimepair", "goUnits", "(IJI)I"⟩, 12) := ⟨lwn_0, tg23, tg513, tg514⟩
theorem lw_p27 : lw_okq (⟨"Daytimepair", "goLine", "(IJJ)I"⟩, 12) := ⟨lwn_0, tg23, tg517, tg518⟩
theorem lw_p28 : lw_okq (⟨"Daytimepair", "dateField", "(II)J"⟩, 12) := ⟨lwn_0, tg23, tg1038, tg1039⟩
theorem lw_p29 : lw_okq (⟨"Daytimepair", "gapText", "(III)Ljava/lang/String;"⟩, 12) := ⟨lwn_0, tg23, tg1070, tg1071⟩
theorem lw_p30 : lw_okq (⟨"Daytimepair", "isGapRefused", "(III)Z"⟩, 12) := ⟨lwn_0, tg23, tg1074, tg1075⟩
theorem lw_p31 : lw_okq (⟨"Daytimepair", "gapInMonths", "(II)J"⟩, 12) := ⟨lwn_0, tg23, tg1080, tg1081⟩
def lw_privs_2 : List (MethodName × Nat) := [(⟨"Daytimepair", "outermost", "(I)I"⟩, 12), (⟨"java/lang/Throwable", "fillInStackTrace", "(I)Ljava/lang/Throwable;"⟩, 6), (⟨"Daytimepair", "handTime", "(I)J"⟩, 12), (⟨"Daytimepair", "becomeDate", "(IIIIJ)I"⟩, 12), (⟨"Daytimepair", "refuse", "()I"⟩, 12), (⟨"Daytimepair", "becomeDay", "(IJJ)I"⟩, 12), (⟨"Daytimepair", "becomeAs", "(IIJ)I"⟩, 12), (⟨"Daytimepair", "becomeMonth", "(III)I"⟩, 12), (⟨"Daytimepair", "goMonths", "(IJ)I"⟩, 12), (⟨"Daytimepair", "monthCount", "(I)J"⟩, 12), (⟨"Daytimepair", "goUnits", "(IJI)I"⟩, 12), (⟨"Daytimepair", "goLine", "(IJJ)I"⟩, 12), (⟨"Daytimepair", "dateField", "(II)J"⟩, 12), (⟨"Daytimepair", "gapText", "(III)Ljava/lang/String;"⟩, 12), (⟨"Daytimepair", "isGapRefused", "(III)Z"⟩, 12), (⟨"Daytimepair", "gapInMonths", "(II)J"⟩, 12)]
theorem lw_r2 : ∀ q ∈ lw_privs_2, lw_okq q := List.forall_mem_cons.mpr ⟨lw_p16, List.forall_mem_cons.mpr ⟨lw_p17, List.forall_mem_cons.mpr ⟨lw_p18, List.forall_mem_cons.mpr ⟨lw_p19, List.forall_mem_cons.mpr ⟨lw_p20, List.forall_mem_cons.mpr ⟨lw_p21, List.forall_mem_cons.mpr ⟨lw_p22, List.forall_mem_cons.mpr ⟨lw_p23, List.forall_mem_cons.mpr ⟨lw_p24, List.forall_mem_cons.mpr ⟨lw_p25, List.forall_mem_cons.mpr ⟨lw_p26, List.forall_mem_cons.mpr ⟨lw_p27, List.forall_mem_cons.mpr ⟨lw_p28, List.forall_mem_cons.mpr ⟨lw_p29, List.forall_mem_cons.mpr ⟨lw_p30, List.forall_mem_cons.mpr ⟨lw_p31, fun _ h => absurd h List.not_mem_nil⟩⟩⟩⟩⟩⟩⟩⟩⟩⟩⟩⟩⟩⟩⟩⟩
theorem lw_p32 : lw_okq (⟨"Daytimepair", "wholeMonths", "(II)J"⟩, 12) := ⟨lwn_0, tg23, tg1084, tg1085⟩
theorem lw_p33 : lw_okq (⟨"DaytimepairModel", "refuses", "(ZZ)Z"⟩, 12) := ⟨lwn_2, tg1102, tg1164, tg1165⟩
theorem lw_p34 : lw_okq (⟨"DaytimepairModel", "refuse", "()I"⟩, 12) := ⟨lwn_2, tg1102, tg1174, tg1175⟩
theorem lw_p35 : lw_okq (⟨"DaytimepairModel", "handTime", "(I)J"⟩, 12) := ⟨lwn_2, tg1102, tg1178, tg1179⟩
theorem lw_p36 : lw_okq (⟨"DaytimepairModel", "become", "(IIIIJ)I"⟩, 12) := ⟨lwn_2, tg1102, tg1184, tg1185⟩
theorem lw_p37 : lw_okq (⟨"DaytimepairModel", "weekDayNow", "(I)I"⟩, 12) := ⟨lwn_2, tg1102, tg1188, tg1189⟩
theorem lw_p38 : lw_okq (⟨"DaytimepairModel", "dayNow", "(I)J"⟩, 12) := ⟨lwn_2, tg1102, tg1192, tg1193⟩
theorem lw_p39 : lw_okq (⟨"DaytimepairModel", "becomeDay", "(IJJ)I"⟩, 12) := ⟨lwn_2, tg1102, tg1226, tg1227⟩
theorem lw_p40 : lw_okq (⟨"DaytimepairModel", "becomeMonth", "(IJI)I"⟩, 12) := ⟨lwn_2, tg1102, tg1253, tg1254⟩
theorem lw_p41 : lw_okq (⟨"DaytimepairModel", "withPart", "(IJJJ)I"⟩, 12) := ⟨lwn_2, tg1102, tg1278, tg1279⟩
theorem lw_p42 : lw_okq (⟨"DaytimepairModel", "onMonths", "(IJ)I"⟩, 12) := ⟨lwn_2, tg1102, tg1314, tg1315⟩
theorem lw_p43 : lw_okq (⟨"DaytimepairModel", "onLine", "(IJJ)I"⟩, 12) := ⟨lwn_2, tg1102, tg1326, tg1327⟩
theorem lw_p44 : lw_okq (⟨"DaytimepairModel", "inYearNow", "(I)I"⟩, 12) := ⟨lwn_2, tg1102, tg1409, tg1410⟩
theorem lw_p45 : lw_okq (⟨"DaytimepairModel", "part", "(IJJ)I"⟩, 12) := ⟨lwn_2, tg1102, tg1421, tg1422⟩
theorem lw_p46 : lw_okq (⟨"DaytimepairModel", "ofTime", "(II)J"⟩, 12) := ⟨lwn_2, tg1102, tg1494, tg1495⟩
theorem lw_p47 : lw_okq (⟨"DaytimepairModel", "ofDate", "(II)J"⟩, 12) := ⟨lwn_2, tg1102, tg1498, tg1499⟩
def lw_privs_3 : List (MethodName × Nat) := [(⟨"Daytimepair", "wholeMonths", "(II)J"⟩, 12), (⟨"DaytimepairModel", "refuses", "(ZZ)Z"⟩, 12), (⟨"DaytimepairModel", "refuse", "()I"⟩, 12), (⟨"DaytimepairModel", "handTime", "(I)J"⟩, 12), (⟨"DaytimepairModel", "become", "(IIIIJ)I"⟩, 12), (⟨"DaytimepairModel", "weekDayNow", "(I)I"⟩, 12), (⟨"DaytimepairModel", "dayNow", "(I)J"⟩, 12), (⟨"DaytimepairModel", "becomeDay", "(IJJ)I"⟩, 12), (⟨"DaytimepairModel", "becomeMonth", "(IJI)I"⟩, 12), (⟨"DaytimepairModel", "withPart", "(IJJJ)I"⟩, 12), (⟨"DaytimepairModel", "onMonths", "(IJ)I"⟩, 12), (⟨"DaytimepairModel", "onLine", "(IJJ)I"⟩, 12), (⟨"DaytimepairModel", "inYearNow", "(I)I"⟩, 12), (⟨"DaytimepairModel", "part", "(IJJ)I"⟩, 12), (⟨"DaytimepairModel", "ofTime", "(II)J"⟩, 12), (⟨"DaytimepairModel", "ofDate", "(II)J"⟩, 12)]
theorem lw_r3 : ∀ q ∈ lw_privs_3, lw_okq q := List.forall_mem_cons.mpr ⟨lw_p32, List.forall_mem_cons.mpr ⟨lw_p33, List.forall_mem_cons.mpr ⟨lw_p34, List.forall_mem_cons.mpr ⟨lw_p35, List.forall_mem_cons.mpr ⟨lw_p36, List.forall_mem_cons.mpr ⟨lw_p37, List.forall_mem_cons.mpr ⟨lw_p38, List.forall_mem_cons.mpr ⟨lw_p39, List.forall_mem_cons.mpr ⟨lw_p40, List.forall_mem_cons.mpr ⟨lw_p41, List.forall_mem_cons.mpr ⟨lw_p42, List.forall_mem_cons.mpr ⟨lw_p43, List.forall_mem_cons.mpr ⟨lw_p44, List.forall_mem_cons.mpr ⟨lw_p45, List.forall_mem_cons.mpr ⟨lw_p46, List.forall_mem_cons.mpr ⟨lw_p47, fun _ h => absurd h List.not_mem_nil⟩⟩⟩⟩⟩⟩⟩⟩⟩⟩⟩⟩⟩⟩⟩⟩
theorem lw_p48 : lw_okq (⟨"DaytimepairModel", "order", "(II)I"⟩, 12) := ⟨lwn_2, tg1102, tg1506, tg1507⟩
theorem lw_p49 : lw_okq (⟨"DaytimepairModel", "betweenNow", "(III)Ljava/lang/String;"⟩, 12) := ⟨lwn_2, tg1102, tg1522, tg1523⟩
theorem lw_p50 : lw_okq (⟨"DaytimepairModel", "lineBetween", "(III)J"⟩, 12) := ⟨lwn_2, tg1102, tg1529, tg1530⟩
theorem lw_p51 : lw_okq (⟨"DaytimepairModel", "monthsOn", "(II)J"⟩, 12) := ⟨lwn_2, tg1102, tg1533, tg1534⟩
theorem lw_p52 : lw_okq (⟨"DaytimepairModel", "monthsBack", "(II)J"⟩, 12) := ⟨lwn_2, tg1102, tg1537, tg1538⟩
theorem lw_p53 : lw_okq (⟨"DaytimepairModel", "houseNow", "(I)I"⟩, 12) := ⟨lwn_2, tg1102, tg1549, tg1550⟩
theorem lw_p54 : lw_okq (⟨"DaytimepairModel", "likeOnes", "()I"⟩, 12) := ⟨lwn_2, tg1102, tg1553, tg1554⟩
theorem lw_p55 : lw_okq (⟨"DaytimepairModel", "outer", "(I)I"⟩, 12) := ⟨lwn_2, tg1102, tg1557, tg1558⟩
def lw_privs_4 : List (MethodName × Nat) := [(⟨"DaytimepairModel", "order", "(II)I"⟩, 12), (⟨"DaytimepairModel", "betweenNow", "(III)Ljava/lang/String;"⟩, 12), (⟨"DaytimepairModel", "lineBetween", "(III)J"⟩, 12), (⟨"DaytimepairModel", "monthsOn", "(II)J"⟩, 12), (⟨"DaytimepairModel", "monthsBack", "(II)J"⟩, 12), (⟨"DaytimepairModel", "houseNow", "(I)I"⟩, 12), (⟨"DaytimepairModel", "likeOnes", "()I"⟩, 12), (⟨"DaytimepairModel", "outer", "(I)I"⟩, 12)]
theorem lw_r4 : ∀ q ∈ lw_privs_4, lw_okq q := List.forall_mem_cons.mpr ⟨lw_p48, List.forall_mem_cons.mpr ⟨lw_p49, List.forall_mem_cons.mpr ⟨lw_p50, List.forall_mem_cons.mpr ⟨lw_p51, List.forall_mem_cons.mpr ⟨lw_p52, List.forall_mem_cons.mpr ⟨lw_p53, List.forall_mem_cons.mpr ⟨lw_p54, List.forall_mem_cons.mpr ⟨lw_p55, fun _ h => absurd h List.not_mem_nil⟩⟩⟩⟩⟩⟩⟩⟩
def lw_privs : List (MethodName × Nat) := lw_privs_1 ++ (lw_privs_2 ++ (lw_privs_3 ++ (lw_privs_4)))
def lw_tbl : List Cond := k2_sels lw_privs ++ tables_1
theorem lw_privs_ok : ∀ q ∈ lw_privs, lw_okq q := by
  show ∀ q ∈ lw_privs_1 ++ (lw_privs_2 ++ (lw_privs_3 ++ (lw_privs_4))), lw_okq q
  exact List.forall_mem_append.mpr ⟨lw_r1, List.forall_mem_append.mpr ⟨lw_r2, List.forall_mem_append.mpr ⟨lw_r3, lw_r4⟩⟩⟩
/-! ===== BEGIN words of one list among another's, by their places ===== -/
theorem goodIn_r {big : List Cond} (ws : List Cond) (ps : List Nat) (hp : ws = ps.filterMap (fun i => big[i]?)) (h : ws.all goodWord = true) : GoodIn big ws := by
  intro w hw
  have h1 := List.all_eq_true.mp h w hw
  rw [hp] at hw
  obtain ⟨i, -, hi⟩ := List.mem_filterMap.mp hw
  have hm : w ∈ big := by first | exact List.mem_of_getElem? hi | exact List.getElem?_mem hi
  exact ⟨hm, good_of_word h1⟩
theorem goodIn_app {big a b : List Cond} (ha : GoodIn big a) (hb : GoodIn big b) : GoodIn big (a ++ b) := fun w h => (List.mem_append.mp h).elim (ha w) (hb w)
theorem goodIn_ca {big a b : List Cond} {c : Cond} (ha : GoodIn big (c :: a)) (hb : GoodIn big b) : GoodIn big (c :: (a ++ b)) := fun w h => (List.mem_cons.mp h).elim (fun e => ha w (List.mem_cons.mpr (Or.inl e))) (fun h => (List.mem_append.mp h).elim (fun h => ha w (List.mem_cons.mpr (Or.inr h))) (hb w))
theorem goodIn_sub {big ws : List Cond} (hm : ∀ w ∈ ws, w ∈ big) (h : ws.all goodWord = true) : GoodIn big ws := fun w hw => ⟨hm w hw, good_of_word (List.all_eq_true.mp h w hw)⟩
