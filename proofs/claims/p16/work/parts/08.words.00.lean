theorem qb_m100 : (Int8.ofInt (-100)).toInt32 = (-100 : Int32) := by decide
theorem qb_m9 : (Int8.ofInt (-9)).toInt32 = (-9 : Int32) := by decide
theorem qb_10 : (Int8.ofInt (10)).toInt32 = (10 : Int32) := by decide
theorem qb_100 : (Int8.ofInt (100)).toInt32 = (100 : Int32) := by decide
theorem qb_11 : (Int8.ofInt (11)).toInt32 = (11 : Int32) := by decide
theorem qb_12 : (Int8.ofInt (12)).toInt32 = (12 : Int32) := by decide
theorem qb_120 : (Int8.ofInt (120)).toInt32 = (120 : Int32) := by decide
theorem qb_13 : (Int8.ofInt (13)).toInt32 = (13 : Int32) := by decide
theorem qb_14 : (Int8.ofInt (14)).toInt32 = (14 : Int32) := by decide
theorem qb_15 : (Int8.ofInt (15)).toInt32 = (15 : Int32) := by decide
theorem qb_16 : (Int8.ofInt (16)).toInt32 = (16 : Int32) := by decide
theorem qb_19 : (Int8.ofInt (19)).toInt32 = (19 : Int32) := by decide
theorem qb_23 : (Int8.ofInt (23)).toInt32 = (23 : Int32) := by decide
theorem qb_27 : (Int8.ofInt (27)).toInt32 = (27 : Int32) := by decide
theorem qb_28 : (Int8.ofInt (28)).toInt32 = (28 : Int32) := by decide
theorem qb_29 : (Int8.ofInt (29)).toInt32 = (29 : Int32) := by decide
theorem qb_30 : (Int8.ofInt (30)).toInt32 = (30 : Int32) := by decide
theorem qb_31 : (Int8.ofInt (31)).toInt32 = (31 : Int32) := by decide
theorem qb_45 : (Int8.ofInt (45)).toInt32 = (45 : Int32) := by decide
theorem qb_59 : (Int8.ofInt (59)).toInt32 = (59 : Int32) := by decide
theorem qb_6 : (Int8.ofInt (6)).toInt32 = (6 : Int32) := by decide
theorem qb_60 : (Int8.ofInt (60)).toInt32 = (60 : Int32) := by decide
theorem qb_63 : (Int8.ofInt (63)).toInt32 = (63 : Int32) := by decide
theorem qb_7 : (Int8.ofInt (7)).toInt32 = (7 : Int32) := by decide
theorem qb_8 : (Int8.ofInt (8)).toInt32 = (8 : Int32) := by decide
theorem qb_9 : (Int8.ofInt (9)).toInt32 = (9 : Int32) := by decide
theorem qb_99 : (Int8.ofInt (99)).toInt32 = (99 : Int32) := by decide
theorem qi_m1 : Int32.ofInt (-1) = (-1 : Int32) := by decide
theorem qi_0 : Int32.ofInt (0) = (0 : Int32) := by decide
theorem qi_1 : Int32.ofInt (1) = (1 : Int32) := by decide
theorem qi_2 : Int32.ofInt (2) = (2 : Int32) := by decide
theorem qi_3 : Int32.ofInt (3) = (3 : Int32) := by decide
theorem qi_4 : Int32.ofInt (4) = (4 : Int32) := by decide
theorem qi_5 : Int32.ofInt (5) = (5 : Int32) := by decide
theorem ql_0 : Int64.ofNat (((0 : Fin 2)) : Nat) = (0 : Int64) := by decide
theorem ql_1 : Int64.ofNat (((1 : Fin 2)) : Nat) = (1 : Int64) := by decide
theorem qs_m9999 : (Int16.ofInt (-9999)).toInt32 = (-9999 : Int32) := by decide
theorem qs_1000 : (Int16.ofInt (1000)).toInt32 = (1000 : Int32) := by decide
theorem qs_1200 : (Int16.ofInt (1200)).toInt32 = (1200 : Int32) := by decide
theorem qs_12000 : (Int16.ofInt (12000)).toInt32 = (12000 : Int32) := by decide
theorem qs_2000 : (Int16.ofInt (2000)).toInt32 = (2000 : Int32) := by decide
theorem qs_255 : (Int16.ofInt (255)).toInt32 = (255 : Int32) := by decide
theorem qs_365 : (Int16.ofInt (365)).toInt32 = (365 : Int32) := by decide
theorem qs_366 : (Int16.ofInt (366)).toInt32 = (366 : Int32) := by decide
theorem qs_399 : (Int16.ofInt (399)).toInt32 = (399 : Int32) := by decide
theorem qs_400 : (Int16.ofInt (400)).toInt32 = (400 : Int32) := by decide
theorem qs_9999 : (Int16.ofInt (9999)).toInt32 = (9999 : Int32) := by decide
theorem pnN_RJ0 : plainName RJ0 = true := by decide +kernel
theorem pnN_RJ1 : plainName RJ1 = true := by decide +kernel
theorem pnN_RJ13 : plainName RJ13 = true := by decide +kernel
theorem pnN_RJ4 : plainName RJ4 = true := by decide +kernel
theorem pnN_RJ5 : plainName RJ5 = true := by decide +kernel
theorem pnN_RJ7 : plainName RJ7 = true := by decide +kernel
theorem pnN_RJ8 : plainName RJ8 = true := by decide +kernel
theorem pnN_RL : plainName RL = true := by decide +kernel
theorem pnN_RX0 : plainName RX0 = true := by decide +kernel
theorem pnN_RX1 : plainName RX1 = true := by decide +kernel
theorem pnN_RX2 : plainName RX2 = true := by decide +kernel
theorem nhN_RJ0 : RJ0 ≠ "java/lang/invoke/MethodHandle" ∧ RJ0 ≠ "java/lang/invoke/VarHandle" := by decide +kernel
theorem nhN_RJ1 : RJ1 ≠ "java/lang/invoke/MethodHandle" ∧ RJ1 ≠ "java/lang/invoke/VarHandle" := by decide +kernel
theorem nhN_RJ13 : RJ13 ≠ "java/lang/invoke/MethodHandle" ∧ RJ13 ≠ "java/lang/invoke/VarHandle" := by decide +kernel
theorem nhN_RJ4 : RJ4 ≠ "java/lang/invoke/MethodHandle" ∧ RJ4 ≠ "java/lang/invoke/VarHandle" := by decide +kernel
theorem nhN_RJ5 : RJ5 ≠ "java/lang/invoke/MethodHandle" ∧ RJ5 ≠ "java/lang/invoke/VarHandle" := by decide +kernel
theorem nhN_RJ7 : RJ7 ≠ "java/lang/invoke/MethodHandle" ∧ RJ7 ≠ "java/lang/invoke/VarHandle" := by decide +kernel
theorem nhN_RJ8 : RJ8 ≠ "java/lang/invoke/MethodHandle" ∧ RJ8 ≠ "java/lang/invoke/VarHandle" := by decide +kernel
theorem nhN_RJ9 : RJ9 ≠ "java/lang/invoke/MethodHandle" ∧ RJ9 ≠ "java/lang/invoke/VarHandle" := by decide +kernel
theorem nhN_RX0 : RX0 ≠ "java/lang/invoke/MethodHandle" ∧ RX0 ≠ "java/lang/invoke/VarHandle" := by decide +kernel
