def fJ9_floorDiv_7cf53 (p0 : Int32) (p1 : Int32) : Int32 := if 0 ≤ (p0 ^^^ p1) then (p0 / p1) else if ((p0 / p1) * p1) = p0 then (p0 / p1) else ((p0 / p1) - (1 : Int32))

def fJ9_floorDiv_f86c9 (p0 : Int64) (p1 : Int64) : Int64 := if 0 ≤ (lg_cmp (p0 ^^^ p1) (0 : Int64)) then (p0 / p1) else if (lg_cmp ((p0 / p1) * p1) p0) = 0 then (p0 / p1) else ((p0 / p1) - (1 : Int64))

def fJ9_floorMod_f86c9 (p0 : Int64) (p1 : Int64) : Int64 := if 0 ≤ (lg_cmp (p0 ^^^ p1) (0 : Int64)) then (p0 - p0 / p1 * p1) else if (lg_cmp (p0 - p0 / p1 * p1) (0 : Int64)) = 0 then (p0 - p0 / p1 * p1) else ((p0 - p0 / p1 * p1) + p1)

def fJ9_abs_067f4 (p0 : Int64) : Int64 := if 0 ≤ (lg_cmp p0 (0 : Int64)) then p0 else (-p0)

def fJ9_min_7cf53 (p0 : Int32) (p1 : Int32) : Int32 := if p1 < p0 then p1 else p0

def fX0_isLeapYear (p0 : Int32) : Int32 := if (p0 - p0 / (4 : Int32) * (4 : Int32)) = 0 then (if (p0 - p0 / (100 : Int32) * (100 : Int32)) = 0 then (if (p0 - p0 / (400 : Int32) * (400 : Int32)) = 0 then (1 : Int32) else (0 : Int32)) else (1 : Int32)) else (0 : Int32)
theorem bX0_isLeapYear (p0 : Int32) : narrow .boolean (.int (fX0_isLeapYear p0)) = .int (fX0_isLeapYear p0) := (bz (bz (bz rfl rfl) rfl) rfl)

def fX0_yearLength (p0 : Int32) : Int32 := if (fX0_isLeapYear p0) = 0 then (365 : Int32) else (366 : Int32)

def fX0_monthLength (p0 : Int32) (p1 : Int32) : Int32 := if p1 = (2 : Int32) then (if (fX0_isLeapYear p0) = 0 then (28 : Int32) else (29 : Int32)) else if p1 = (3 : Int32) then (31 : Int32) else if p1 = (4 : Int32) then (30 : Int32) else if p1 = (5 : Int32) then (31 : Int32) else if p1 = (6 : Int32) then (30 : Int32) else if p1 = (7 : Int32) then (31 : Int32) else if p1 = (8 : Int32) then (31 : Int32) else if p1 = (9 : Int32) then (30 : Int32) else if p1 = (10 : Int32) then (31 : Int32) else if p1 = (11 : Int32) then (30 : Int32) else (31 : Int32)

def fX0_daysAhead (p0 : Int32) (p1 : Int32) : Int32 := if p1 < (1 : Int32) then (0 : Int32) else if p1 ≤ (12 : Int32) then (if p1 ≤ (2 : Int32) then (tDA (p1 - (1 : Int32)).toNatClampNeg) else if (fX0_isLeapYear p0) = 0 then (tDA (p1 - (1 : Int32)).toNatClampNeg) else ((tDA (p1 - (1 : Int32)).toNatClampNeg) + (1 : Int32))) else (0 : Int32)

def fX0_firstDayOf (p0 : Int32) : Int64 := ((((365 : Int64) * (p0.toInt64)) + ((((fJ9_floorDiv_7cf53 (p0 + (3 : Int32)) (4 : Int32)) - (fJ9_floorDiv_7cf53 (p0 + (99 : Int32)) (100 : Int32))) + (fJ9_floorDiv_7cf53 (p0 + (399 : Int32)) (400 : Int32))).toInt64)) - (719528 : Int64))

def fX0_dayOf (p0 : Int32) (p1 : Int32) (p2 : Int32) : Int64 := ((((fX0_firstDayOf p0) + ((fX0_daysAhead p0 p1).toInt64)) + (p2.toInt64)) - (1 : Int64))

def fX0_yearOf (p0 : Int64) : Int32 := if 0 ≤ (lg_cmp p0 (fX0_firstDayOf ((fJ9_floorDiv_f86c9 ((p0 + (719528 : Int64)) * (400 : Int64)) (146097 : Int64)).toInt32))) then (if 0 ≤ (lg_cmp p0 (fX0_firstDayOf (((fJ9_floorDiv_f86c9 ((p0 + (719528 : Int64)) * (400 : Int64)) (146097 : Int64)).toInt32) + (1 : Int32)))) then (((fJ9_floorDiv_f86c9 ((p0 + (719528 : Int64)) * (400 : Int64)) (146097 : Int64)).toInt32) + (1 : Int32)) else ((fJ9_floorDiv_f86c9 ((p0 + (719528 : Int64)) * (400 : Int64)) (146097 : Int64)).toInt32)) else (((fJ9_floorDiv_f86c9 ((p0 + (719528 : Int64)) * (400 : Int64)) (146097 : Int64)).toInt32) - (1 : Int32))

def fX0_weekday (p0 : Int64) : Int32 := (((fJ9_floorMod_f86c9 (p0 + (3 : Int64)) (7 : Int64)).toInt32) + (1 : Int32))

def fX0_timeOf (p0 : Int32) (p1 : Int32) (p2 : Int32) (p3 : Int32) : Int64 := (((((p0.toInt64) * (3600000000000 : Int64)) + ((p1.toInt64) * (60000000000 : Int64))) + ((p2.toInt64) * (1000000000 : Int64))) + (p3.toInt64))

def fX0_monthOf (p0 : Int32) (p1 : Int32) : Int32 := if p1 ≤ (fX0_daysAhead p0 (12 : Int32)) then (if p1 ≤ (fX0_daysAhead p0 (11 : Int32)) then (if p1 ≤ (fX0_daysAhead p0 (10 : Int32)) then (if p1 ≤ (fX0_daysAhead p0 (9 : Int32)) then (if p1 ≤ (fX0_daysAhead p0 (8 : Int32)) then (if p1 ≤ (fX0_daysAhead p0 (7 : Int32)) then (if p1 ≤ (fX0_daysAhead p0 (6 : Int32)) then (if p1 ≤ (fX0_daysAhead p0 (5 : Int32)) then (if p1 ≤ (fX0_daysAhead p0 (4 : Int32)) then (if p1 ≤ (fX0_daysAhead p0 (3 : Int32)) then (if p1 ≤ (fX0_daysAhead p0 (2 : Int32)) then (1 : Int32) else (2 : Int32)) else (3 : Int32)) else (4 : Int32)) else (5 : Int32)) else (6 : Int32)) else (7 : Int32)) else (8 : Int32)) else (9 : Int32)) else (10 : Int32)) else (11 : Int32)) else (12 : Int32)

def fX0_hourOf (p0 : Int64) : Int32 := ((p0 / (3600000000000 : Int64)).toInt32)

def fX0_minuteOf (p0 : Int64) : Int32 := (((p0 - p0 / (3600000000000 : Int64) * (3600000000000 : Int64)) / (60000000000 : Int64)).toInt32)

def fX0_secondOf (p0 : Int64) : Int32 := (((p0 - p0 / (60000000000 : Int64) * (60000000000 : Int64)) / (1000000000 : Int64)).toInt32)

def fX0_nanoOfSecond (p0 : Int64) : Int32 := ((p0 - p0 / (1000000000 : Int64) * (1000000000 : Int64)).toInt32)

def fX0_quotient (p0 : Int64) (p1 : Int64) : Int64 := if (lg_cmp p1 (0 : Int64)) = 0 then (0 : Int64) else (p0 / p1)

def fX0_nanosOfUnit (p0 : Int32) : Int64 := if p0 = (0 : Int32) then (1 : Int64) else if p0 = (1 : Int32) then (1000 : Int64) else if p0 = (2 : Int32) then (1000000 : Int64) else if p0 = (3 : Int32) then (1000000000 : Int64) else if p0 = (4 : Int32) then (60000000000 : Int64) else if p0 = (5 : Int32) then (3600000000000 : Int64) else if p0 = (6 : Int32) then (43200000000000 : Int64) else (86400000000000 : Int64)

def fX0_monthsOfUnit (p0 : Int32) : Int64 := if p0 = (9 : Int32) then (1 : Int64) else if p0 = (10 : Int32) then (12 : Int64) else if p0 = (11 : Int32) then (120 : Int64) else if p0 = (12 : Int32) then (1200 : Int64) else (12000 : Int64)

def fX0_cutNano (p0 : Int64) (p1 : Int32) : Int64 := ((fX0_quotient p0 (fX0_nanosOfUnit p1)) * (fX0_nanosOfUnit p1))

def fX0_timeField (p0 : Int64) (p1 : Int32) : Int64 := if p1 = (0 : Int32) then ((fX0_nanoOfSecond p0).toInt64) else if p1 = (1 : Int32) then p0 else if p1 = (2 : Int32) then (((fX0_nanoOfSecond p0) / (1000 : Int32)).toInt64) else if p1 = (3 : Int32) then (p0 / (1000 : Int64)) else if p1 = (4 : Int32) then (((fX0_nanoOfSecond p0) / (1000000 : Int32)).toInt64) else if p1 = (5 : Int32) then (p0 / (1000000 : Int64)) else if p1 = (6 : Int32) then ((fX0_secondOf p0).toInt64) else if p1 = (7 : Int32) then (p0 / (1000000000 : Int64)) else if p1 = (8 : Int32) then ((fX0_minuteOf p0).toInt64) else if p1 = (9 : Int32) then (p0 / (60000000000 : Int64)) else if p1 = (10 : Int32) then (((fX0_hourOf p0) - (fX0_hourOf p0) / (12 : Int32) * (12 : Int32)).toInt64) else if p1 = (11 : Int32) then (if ((fX0_hourOf p0) - (fX0_hourOf p0) / (12 : Int32) * (12 : Int32)) = 0 then (12 : Int64) else (((fX0_hourOf p0) - (fX0_hourOf p0) / (12 : Int32) * (12 : Int32)).toInt64)) else if p1 = (12 : Int32) then ((fX0_hourOf p0).toInt64) else if p1 = (13 : Int32) then (if (fX0_hourOf p0) = 0 then (24 : Int64) else ((fX0_hourOf p0).toInt64)) else if (12 : Int32) ≤ (fX0_hourOf p0) then (1 : Int64) else (0 : Int64)

def fX0_mix (p0 : Int64) (p1 : Int64) : Int64 := ((p0 * (31 : Int64)) + p1)

def fX0_isCutWell (p0 : Int64) : Int32 := if 0 < (lg_cmp (fX0_cutNano p0 (0 : Int32)) p0) then (0 : Int32) else if (lg_cmp (fX0_cutNano (fX0_cutNano p0 (0 : Int32)) (0 : Int32)) (fX0_cutNano p0 (0 : Int32))) = 0 then (if 0 < (lg_cmp (fX0_cutNano p0 (1 : Int32)) p0) then (0 : Int32) else if (lg_cmp (fX0_cutNano (fX0_cutNano p0 (1 : Int32)) (1 : Int32)) (fX0_cutNano p0 (1 : Int32))) = 0 then (if 0 < (lg_cmp (fX0_cutNano p0 (2 : Int32)) p0) then (0 : Int32) else if (lg_cmp (fX0_cutNano (fX0_cutNano p0 (2 : Int32)) (2 : Int32)) (fX0_cutNano p0 (2 : Int32))) = 0 then (if 0 < (lg_cmp (fX0_cutNano p0 (3 : Int32)) p0) then (0 : Int32) else if (lg_cmp (fX0_cutNano (fX0_cutNano p0 (3 : Int32)) (3 : Int32)) (fX0_cutNano p0 (3 : Int32))) = 0 then (if 0 < (lg_cmp (fX0_cutNano p0 (4 : Int32)) p0) then (0 : Int32) else if (lg_cmp (fX0_cutNano (fX0_cutNano p0 (4 : Int32)) (4 : Int32)) (fX0_cutNano p0 (4 : Int32))) = 0 then (if 0 < (lg_cmp (fX0_cutNano p0 (5 : Int32)) p0) then (0 : Int32) else if (lg_cmp (fX0_cutNano (fX0_cutNano p0 (5 : Int32)) (5 : Int32)) (fX0_cutNano p0 (5 : Int32))) = 0 then (if 0 < (lg_cmp (fX0_cutNano p0 (6 : Int32)) p0) then (0 : Int32) else if (lg_cmp (fX0_cutNano (fX0_cutNano p0 (6 : Int32)) (6 : Int32)) (fX0_cutNano p0 (6 : Int32))) = 0 then (if 0 < (lg_cmp (fX0_cutNano p0 (7 : Int32)) p0) then (0 : Int32) else if (lg_cmp (fX0_cutNano (fX0_cutNano p0 (7 : Int32)) (7 : Int32)) (fX0_cutNano p0 (7 : Int32))) = 0 then (1 : Int32) else (0 : Int32)) else (0 : Int32)) else (0 : Int32)) else (0 : Int32)) else (0 : Int32)) else (0 : Int32)) else (0 : Int32)) else (0 : Int32)
theorem bX0_isCutWell (p0 : Int64) : narrow .boolean (.int (fX0_isCutWell p0)) = .int (fX0_isCutWell p0) := (bz rfl (bz (bz rfl (bz (bz rfl (bz (bz rfl (bz (bz rfl (bz (bz rfl (bz (bz rfl (bz (bz rfl (bz rfl rfl)) rfl)) rfl)) rfl)) rfl)) rfl)) rfl)) rfl))

def fX2_isLeapYear (p0 : Int32) : Int32 := if (p0 - p0 / (400 : Int32) * (400 : Int32)) = 0 then (1 : Int32) else if (p0 - p0 / (4 : Int32) * (4 : Int32)) = 0 then (if (p0 - p0 / (100 : Int32) * (100 : Int32)) = 0 then (0 : Int32) else (1 : Int32)) else (0 : Int32)
theorem bX2_isLeapYear (p0 : Int32) : narrow .boolean (.int (fX2_isLeapYear p0)) = .int (fX2_isLeapYear p0) := (bz rfl (bz (bz rfl rfl) rfl))

def fX2_daysOf (p0 : Int32) (p1 : Int32) : Int32 := if p1 = (2 : Int32) then (if (fX2_isLeapYear p0) = 0 then (28 : Int32) else (29 : Int32)) else if p1 = (4 : Int32) then (30 : Int32) else if p1 = (6 : Int32) then (30 : Int32) else if p1 = (9 : Int32) then (30 : Int32) else if p1 = (11 : Int32) then (30 : Int32) else (31 : Int32)

def fX2_daysOf_ (p0 : Int32) : Int32 := if (fX2_isLeapYear p0) = 0 then (365 : Int32) else (366 : Int32)

def fX2_floor (p0 : Int64) (p1 : Int64) : Int64 := if (lg_cmp ((p0 / p1) * p1) p0) ≤ 0 then (p0 / p1) else ((p0 / p1) - (1 : Int64))

def fX2_ahead (p0 : Int64) : Int64 := (((((365 : Int64) * p0) + (fX2_floor (p0 + (3 : Int64)) (4 : Int64))) - (fX2_floor (p0 + (99 : Int64)) (100 : Int64))) + (fX2_floor (p0 + (399 : Int64)) (400 : Int64)))

def fX2_weekDay (p0 : Int64) : Int32 := ((((p0 + (3 : Int64)) - ((7 : Int64) * (fX2_floor (p0 + (3 : Int64)) (7 : Int64)))).toInt32) + (1 : Int32))

def fX2_nanosOf (p0 : Int32) : Int64 := if p0 = (0 : Int32) then (1 : Int64) else if p0 = (1 : Int32) then (1000 : Int64) else if p0 = (2 : Int32) then (1000000 : Int64) else if p0 = (3 : Int32) then (1000000000 : Int64) else if p0 = (4 : Int32) then (60000000000 : Int64) else if p0 = (5 : Int32) then (3600000000000 : Int64) else if p0 = (6 : Int32) then (43200000000000 : Int64) else if p0 = (7 : Int32) then (86400000000000 : Int64) else (604800000000000 : Int64)

def fX2_monthsOf (p0 : Int32) : Int32 := if p0 = (9 : Int32) then (1 : Int32) else if p0 = (10 : Int32) then (12 : Int32) else if p0 = (11 : Int32) then (120 : Int32) else if p0 = (12 : Int32) then (1200 : Int32) else (12000 : Int32)

def fX2_isFrom (p0 : Int32) (p1 : Int32) (p2 : Int32) : Int32 := if p2 < p0 then (0 : Int32) else if p1 < p2 then (0 : Int32) else (1 : Int32)
theorem bX2_isFrom (p0 : Int32) (p1 : Int32) (p2 : Int32) : narrow .boolean (.int (fX2_isFrom p0 p1 p2)) = .int (fX2_isFrom p0 p1 p2) := (bz rfl (bz rfl rfl))

def fX2_isNone (p0 : Int32) : Int32 := if (fX2_isFrom (0 : Int32) (5 : Int32) p0) = 0 then (1 : Int32) else (0 : Int32)
theorem bX2_isNone (p0 : Int32) : narrow .boolean (.int (fX2_isNone p0)) = .int (fX2_isNone p0) := (bz rfl rfl)

def fX2_inYear (p0 : Int32) (p1 : Int32) (p2 : Int32) : Int32 := if p1 ≤ (1 : Int32) then p2 else if p1 ≤ (2 : Int32) then (p2 + (fX2_daysOf p0 (1 : Int32))) else if p1 ≤ (3 : Int32) then ((p2 + (fX2_daysOf p0 (1 : Int32))) + (fX2_daysOf p0 (2 : Int32))) else if p1 ≤ (4 : Int32) then (((p2 + (fX2_daysOf p0 (1 : Int32))) + (fX2_daysOf p0 (2 : Int32))) + (fX2_daysOf p0 (3 : Int32))) else if p1 ≤ (5 : Int32) then ((((p2 + (fX2_daysOf p0 (1 : Int32))) + (fX2_daysOf p0 (2 : Int32))) + (fX2_daysOf p0 (3 : Int32))) + (fX2_daysOf p0 (4 : Int32))) else if p1 ≤ (6 : Int32) then (((((p2 + (fX2_daysOf p0 (1 : Int32))) + (fX2_daysOf p0 (2 : Int32))) + (fX2_daysOf p0 (3 : Int32))) + (fX2_daysOf p0 (4 : Int32))) + (fX2_daysOf p0 (5 : Int32))) else if p1 ≤ (7 : Int32) then ((((((p2 + (fX2_daysOf p0 (1 : Int32))) + (fX2_daysOf p0 (2 : Int32))) + (fX2_daysOf p0 (3 : Int32))) + (fX2_daysOf p0 (4 : Int32))) + (fX2_daysOf p0 (5 : Int32))) + (fX2_daysOf p0 (6 : Int32))) else if p1 ≤ (8 : Int32) then (((((((p2 + (fX2_daysOf p0 (1 : Int32))) + (fX2_daysOf p0 (2 : Int32))) + (fX2_daysOf p0 (3 : Int32))) + (fX2_daysOf p0 (4 : Int32))) + (fX2_daysOf p0 (5 : Int32))) + (fX2_daysOf p0 (6 : Int32))) + (fX2_daysOf p0 (7 : Int32))) else if p1 ≤ (9 : Int32) then ((((((((p2 + (fX2_daysOf p0 (1 : Int32))) + (fX2_daysOf p0 (2 : Int32))) + (fX2_daysOf p0 (3 : Int32))) + (fX2_daysOf p0 (4 : Int32))) + (fX2_daysOf p0 (5 : Int32))) + (fX2_daysOf p0 (6 : Int32))) + (fX2_daysOf p0 (7 : Int32))) + (fX2_daysOf p0 (8 : Int32))) else if p1 ≤ (10 : Int32) then (((((((((p2 + (fX2_daysOf p0 (1 : Int32))) + (fX2_daysOf p0 (2 : Int32))) + (fX2_daysOf p0 (3 : Int32))) + (fX2_daysOf p0 (4 : Int32))) + (fX2_daysOf p0 (5 : Int32))) + (fX2_daysOf p0 (6 : Int32))) + (fX2_daysOf p0 (7 : Int32))) + (fX2_daysOf p0 (8 : Int32))) + (fX2_daysOf p0 (9 : Int32))) else if p1 ≤ (11 : Int32) then ((((((((((p2 + (fX2_daysOf p0 (1 : Int32))) + (fX2_daysOf p0 (2 : Int32))) + (fX2_daysOf p0 (3 : Int32))) + (fX2_daysOf p0 (4 : Int32))) + (fX2_daysOf p0 (5 : Int32))) + (fX2_daysOf p0 (6 : Int32))) + (fX2_daysOf p0 (7 : Int32))) + (fX2_daysOf p0 (8 : Int32))) + (fX2_daysOf p0 (9 : Int32))) + (fX2_daysOf p0 (10 : Int32))) else (((((((((((p2 + (fX2_daysOf p0 (1 : Int32))) + (fX2_daysOf p0 (2 : Int32))) + (fX2_daysOf p0 (3 : Int32))) + (fX2_daysOf p0 (4 : Int32))) + (fX2_daysOf p0 (5 : Int32))) + (fX2_daysOf p0 (6 : Int32))) + (fX2_daysOf p0 (7 : Int32))) + (fX2_daysOf p0 (8 : Int32))) + (fX2_daysOf p0 (9 : Int32))) + (fX2_daysOf p0 (10 : Int32))) + (fX2_daysOf p0 (11 : Int32)))

def fX2_dayOf (p0 : Int32) (p1 : Int32) (p2 : Int32) : Int64 := ((((fX2_ahead (p0.toInt64)) - (fX2_ahead (1970 : Int64))) + ((fX2_inYear p0 p1 p2).toInt64)) - (1 : Int64))



theorem fb_rng (x : Int32) : -2147483648 ≤ x.toInt ∧ x.toInt < 2147483648 := by
  have h1 := Int32.le_toInt x
  have h2 := Int32.toInt_lt x
  omega
theorem fb_bmod {z : Int} (h1 : -2147483648 ≤ z) (h2 : z < 2147483648) : z.bmod (2 ^ 32) = z := by
  rw [Int.bmod_eq_of_le (by omega) (by omega)]
theorem fb_addI {x y : Int32} (h1 : -2147483648 ≤ x.toInt + y.toInt) (h2 : x.toInt + y.toInt < 2147483648) : (x + y).toInt = x.toInt + y.toInt := by
  rw [Int32.toInt_add, fb_bmod h1 h2]
theorem fb_subI {x y : Int32} (h1 : -2147483648 ≤ x.toInt - y.toInt) (h2 : x.toInt - y.toInt < 2147483648) : (x - y).toInt = x.toInt - y.toInt := by
  rw [Int32.toInt_sub, fb_bmod h1 h2]
theorem fb_mulI {x y : Int32} (h1 : -2147483648 ≤ x.toInt * y.toInt) (h2 : x.toInt * y.toInt < 2147483648) : (x * y).toInt = x.toInt * y.toInt := by
  rw [Int32.toInt_mul, fb_bmod h1 h2]
theorem fb_negI {x : Int32} (h : x.toInt ≠ -2147483648) : (-x).toInt = -x.toInt := by
  have := fb_rng x
  rw [Int32.toInt_neg, fb_bmod (by omega) (by omega)]
theorem fb_ofI {z : Int} (h1 : -2147483648 ≤ z) (h2 : z < 2147483648) : (Int32.ofInt z).toInt = z := by
  rw [Int32.toInt_ofInt, fb_bmod h1 h2]
theorem fb_asI (x : Int32) : Int32.ofInt x.toInt = x := Int32.ofInt_toInt x
theorem fb_rngL (x : Int64) : -9223372036854775808 ≤ x.toInt ∧ x.toInt < 9223372036854775808 := by
  have h1 := Int64.le_toInt x
  have h2 := Int64.toInt_lt x
  omega
theorem fb_bmodL {z : Int} (h1 : -9223372036854775808 ≤ z) (h2 : z < 9223372036854775808) : z.bmod (2 ^ 64) = z := by
  rw [Int.bmod_eq_of_le (by omega) (by omega)]
theorem fb_addL {x y : Int64} (h1 : -9223372036854775808 ≤ x.toInt + y.toInt) (h2 : x.toInt + y.toInt < 9223372036854775808) : (x + y).toInt = x.toInt + y.toInt := by
  rw [Int64.toInt_add, fb_bmodL h1 h2]
theorem fb_subL {x y : Int64} (h1 : -9223372036854775808 ≤ x.toInt - y.toInt) (h2 : x.toInt - y.toInt < 9223372036854775808) : (x - y).toInt = x.toInt - y.toInt := by
  rw [Int64.toInt_sub, fb_bmodL h1 h2]
theorem fb_mulL {x y : Int64} (h1 : -9223372036854775808 ≤ x.toInt * y.toInt) (h2 : x.toInt * y.toInt < 9223372036854775808) : (x * y).toInt = x.toInt * y.toInt := by
  rw [Int64.toInt_mul, fb_bmodL h1 h2]
theorem nz_nanosOf (u : Int32) : ¬ fX2_nanosOf u = 0 := by
  unfold fX2_nanosOf
  repeat' split
  all_goals decide
theorem nz_monthsOf (u : Int32) : ¬ (fX2_monthsOf u).toInt64 = 0 := by
  unfold fX2_monthsOf
  repeat' split
  all_goals decide
theorem nz_nanosOfUnit (u : Int32) : ¬ fX0_nanosOfUnit u = 0 := by
  unfold fX0_nanosOfUnit
  repeat' split
  all_goals decide
