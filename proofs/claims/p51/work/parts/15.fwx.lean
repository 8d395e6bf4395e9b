def gX0_refuse (S : SX) : Int32 × SX := ((-9 : Int32), ((xy S), (xm S), (xd S), (xD S), (xN S), (upd (S.2.2.2.2.2) 5 ((xi S 5) + (1 : Int32)))))

def gX0_becomeDate (S : SX) (p0 : Int32) (p1 : Int32) (p2 : Int32) (p3 : Int32) (p4 : Int64) : Int32 × SX := if p3 ≤ (fX0_monthLength p1 p2) then ((fX0_weekday (fX0_dayOf p1 p2 p3)), ((upd (xy S) p0.toNatClampNeg p1), (upd (xm S) p0.toNatClampNeg p2), (upd (xd S) p0.toNatClampNeg p3), (vp_updL (xD S) p0.toNatClampNeg (fX0_dayOf p1 p2 p3)), (vp_updL (xN S) p0.toNatClampNeg p4), (upd (S.2.2.2.2.2) 4 ((xi S 4) + (1 : Int32))))) else ((gX0_refuse S).1, (gX0_refuse S).2)

def gX0_becomeDay (S : SX) (p0 : Int32) (p1 : Int64) (p2 : Int64) : Int32 × SX := if (lg_cmp p1 (-4371587 : Int64)) < 0 then ((gX0_refuse S).1, (gX0_refuse S).2) else if (lg_cmp p1 (2932896 : Int64)) ≤ 0 then ((gX0_becomeDate S p0 (fX0_yearOf p1) (fX0_monthOf (fX0_yearOf p1) (((p1 - (fX0_firstDayOf (fX0_yearOf p1))).toInt32) + (1 : Int32))) ((((p1 - (fX0_firstDayOf (fX0_yearOf p1))).toInt32) + (1 : Int32)) - (fX0_daysAhead (fX0_yearOf p1) (fX0_monthOf (fX0_yearOf p1) (((p1 - (fX0_firstDayOf (fX0_yearOf p1))).toInt32) + (1 : Int32))))) p2).1, (gX0_becomeDate S p0 (fX0_yearOf p1) (fX0_monthOf (fX0_yearOf p1) (((p1 - (fX0_firstDayOf (fX0_yearOf p1))).toInt32) + (1 : Int32))) ((((p1 - (fX0_firstDayOf (fX0_yearOf p1))).toInt32) + (1 : Int32)) - (fX0_daysAhead (fX0_yearOf p1) (fX0_monthOf (fX0_yearOf p1) (((p1 - (fX0_firstDayOf (fX0_yearOf p1))).toInt32) + (1 : Int32))))) p2).2) else ((gX0_refuse S).1, (gX0_refuse S).2)

def gX0_becomeMonth (S : SX) (p0 : Int32) (p1 : Int32) (p2 : Int32) : Int32 × SX := ((gX0_becomeDate S p0 p1 p2 (fJ9_min_7cf53 ((xd S) p0.toNatClampNeg) (fX0_monthLength p1 p2)) ((xN S) p0.toNatClampNeg)).1, (gX0_becomeDate S p0 p1 p2 (fJ9_min_7cf53 ((xd S) p0.toNatClampNeg) (fX0_monthLength p1 p2)) ((xN S) p0.toNatClampNeg)).2)

def gX0_becomeAs (S : SX) (p0 : Int32) (p1 : Int32) (p2 : Int64) : Int32 × SX := ((gX0_becomeDate S p0 ((xy S) p1.toNatClampNeg) ((xm S) p1.toNatClampNeg) ((xd S) p1.toNatClampNeg) p2).1, (gX0_becomeDate S p0 ((xy S) p1.toNatClampNeg) ((xm S) p1.toNatClampNeg) ((xd S) p1.toNatClampNeg) p2).2)

def gX0_goMonths (S : SX) (p0 : Int32) (p1 : Int64) : Int32 × SX := if (lg_cmp (fJ9_floorDiv_f86c9 ((fX0_monthCount S p0) + p1) (12 : Int64)) (-9999 : Int64)) < 0 then ((gX0_refuse S).1, (gX0_refuse S).2) else if (lg_cmp (fJ9_floorDiv_f86c9 ((fX0_monthCount S p0) + p1) (12 : Int64)) (9999 : Int64)) ≤ 0 then ((gX0_becomeMonth S p0 ((fJ9_floorDiv_f86c9 ((fX0_monthCount S p0) + p1) (12 : Int64)).toInt32) (((fJ9_floorMod_f86c9 ((fX0_monthCount S p0) + p1) (12 : Int64)).toInt32) + (1 : Int32))).1, (gX0_becomeMonth S p0 ((fJ9_floorDiv_f86c9 ((fX0_monthCount S p0) + p1) (12 : Int64)).toInt32) (((fJ9_floorMod_f86c9 ((fX0_monthCount S p0) + p1) (12 : Int64)).toInt32) + (1 : Int32))).2) else ((gX0_refuse S).1, (gX0_refuse S).2)

def gX0_goLine (S : SX) (p0 : Int32) (p1 : Int64) (p2 : Int64) : Int32 × SX := ((gX0_becomeDay S p0 ((((xD S) p0.toNatClampNeg) + p1) + (fJ9_floorDiv_f86c9 (((xN S) p0.toNatClampNeg) + p2) (86400000000000 : Int64))) (fJ9_floorMod_f86c9 (((xN S) p0.toNatClampNeg) + p2) (86400000000000 : Int64))).1, (gX0_becomeDay S p0 ((((xD S) p0.toNatClampNeg) + p1) + (fJ9_floorDiv_f86c9 (((xN S) p0.toNatClampNeg) + p2) (86400000000000 : Int64))) (fJ9_floorMod_f86c9 (((xN S) p0.toNatClampNeg) + p2) (86400000000000 : Int64))).2)

def gX0_goUnits (S : SX) (p0 : Int32) (p1 : Int64) (p2 : Int32) : Int32 × SX := if p2 = (8 : Int32) then ((gX0_goLine S p0 ((7 : Int64) * p1) (0 : Int64)).1, (gX0_goLine S p0 ((7 : Int64) * p1) (0 : Int64)).2) else ((gX0_goLine S p0 (fX0_quotient p1 (fX0_quotient (86400000000000 : Int64) (fX0_nanosOfUnit p2))) ((p1 - ((fX0_quotient p1 (fX0_quotient (86400000000000 : Int64) (fX0_nanosOfUnit p2))) * (fX0_quotient (86400000000000 : Int64) (fX0_nanosOfUnit p2)))) * (fX0_nanosOfUnit p2))).1, (gX0_goLine S p0 (fX0_quotient p1 (fX0_quotient (86400000000000 : Int64) (fX0_nanosOfUnit p2))) ((p1 - ((fX0_quotient p1 (fX0_quotient (86400000000000 : Int64) (fX0_nanosOfUnit p2))) * (fX0_quotient (86400000000000 : Int64) (fX0_nanosOfUnit p2)))) * (fX0_nanosOfUnit p2))).2)

def gX0_hand (S : SX) (p0 : Int32) (p1 : Int32) (p2 : Int32) (p3 : Int32) : Int32 × SX := ((xi S 0), ((xy S), (xm S), (xd S), (xD S), (xN S), (upd (upd (upd (upd (S.2.2.2.2.2) 0 p0) 1 p1) 2 p2) 3 p3)))

def gX0_of (S : SX) (p0 : Int32) (p1 : Int32) (p2 : Int32) (p3 : Int32) (p4 : Int32) : Int32 × SX := ((gX0_becomeDate S p0 p1 p2 p3 (fX0_handTime S p4)).1, (gX0_becomeDate S p0 p1 p2 p3 (fX0_handTime S p4)).2)

def gX0_ofDay (S : SX) (p0 : Int32) (p1 : Int32) : Int32 × SX := ((gX0_becomeDay S p0 (p1.toInt64) (fX0_handTime S (2 : Int32))).1, (gX0_becomeDay S p0 (p1.toInt64) (fX0_handTime S (2 : Int32))).2)

def gX0_copy (S : SX) (p0 : Int32) (p1 : Int32) : Int32 × SX := ((gX0_becomeAs S p0 p1 ((xN S) p1.toNatClampNeg)).1, (gX0_becomeAs S p0 p1 ((xN S) p1.toNatClampNeg)).2)

def gX0_takeDate (S : SX) (p0 : Int32) (p1 : Int32) : Int32 × SX := ((gX0_becomeAs S p0 p1 ((xN S) p0.toNatClampNeg)).1, (gX0_becomeAs S p0 p1 ((xN S) p0.toNatClampNeg)).2)

def gX0_takeTime (S : SX) (p0 : Int32) (p1 : Int32) : Int32 × SX := ((gX0_becomeAs S p0 p0 ((xN S) p1.toNatClampNeg)).1, (gX0_becomeAs S p0 p0 ((xN S) p1.toNatClampNeg)).2)

def gX0_withYear (S : SX) (p0 : Int32) (p1 : Int32) : Int32 × SX := ((gX0_becomeMonth S p0 p1 ((xm S) p0.toNatClampNeg)).1, (gX0_becomeMonth S p0 p1 ((xm S) p0.toNatClampNeg)).2)

def gX0_withMonth (S : SX) (p0 : Int32) (p1 : Int32) : Int32 × SX := ((gX0_becomeMonth S p0 ((xy S) p0.toNatClampNeg) p1).1, (gX0_becomeMonth S p0 ((xy S) p0.toNatClampNeg) p1).2)

def gX0_withDayOfMonth (S : SX) (p0 : Int32) (p1 : Int32) : Int32 × SX := ((gX0_becomeDate S p0 ((xy S) p0.toNatClampNeg) ((xm S) p0.toNatClampNeg) p1 ((xN S) p0.toNatClampNeg)).1, (gX0_becomeDate S p0 ((xy S) p0.toNatClampNeg) ((xm S) p0.toNatClampNeg) p1 ((xN S) p0.toNatClampNeg)).2)

def gX0_withDayOfYear (S : SX) (p0 : Int32) (p1 : Int32) : Int32 × SX := if p1 ≤ (fX0_yearLength ((xy S) p0.toNatClampNeg)) then ((gX0_becomeDay S p0 (((fX0_firstDayOf ((xy S) p0.toNatClampNeg)) + (p1.toInt64)) - (1 : Int64)) ((xN S) p0.toNatClampNeg)).1, (gX0_becomeDay S p0 (((fX0_firstDayOf ((xy S) p0.toNatClampNeg)) + (p1.toInt64)) - (1 : Int64)) ((xN S) p0.toNatClampNeg)).2) else ((gX0_refuse S).1, (gX0_refuse S).2)

def gX0_withHour (S : SX) (p0 : Int32) (p1 : Int32) : Int32 × SX := ((gX0_becomeAs S p0 p0 (((xN S) p0.toNatClampNeg) + (((p1 - (fX0_hourOf ((xN S) p0.toNatClampNeg))).toInt64) * (3600000000000 : Int64)))).1, (gX0_becomeAs S p0 p0 (((xN S) p0.toNatClampNeg) + (((p1 - (fX0_hourOf ((xN S) p0.toNatClampNeg))).toInt64) * (3600000000000 : Int64)))).2)

def gX0_withMinute (S : SX) (p0 : Int32) (p1 : Int32) : Int32 × SX := ((gX0_becomeAs S p0 p0 (((xN S) p0.toNatClampNeg) + (((p1 - (fX0_minuteOf ((xN S) p0.toNatClampNeg))).toInt64) * (60000000000 : Int64)))).1, (gX0_becomeAs S p0 p0 (((xN S) p0.toNatClampNeg) + (((p1 - (fX0_minuteOf ((xN S) p0.toNatClampNeg))).toInt64) * (60000000000 : Int64)))).2)

def gX0_withSecond (S : SX) (p0 : Int32) (p1 : Int32) : Int32 × SX := ((gX0_becomeAs S p0 p0 (((xN S) p0.toNatClampNeg) + (((p1 - (fX0_secondOf ((xN S) p0.toNatClampNeg))).toInt64) * (1000000000 : Int64)))).1, (gX0_becomeAs S p0 p0 (((xN S) p0.toNatClampNeg) + (((p1 - (fX0_secondOf ((xN S) p0.toNatClampNeg))).toInt64) * (1000000000 : Int64)))).2)

def gX0_withNano (S : SX) (p0 : Int32) (p1 : Int32) : Int32 × SX := ((gX0_becomeAs S p0 p0 ((((xN S) p0.toNatClampNeg) + (p1.toInt64)) - ((fX0_nanoOfSecond ((xN S) p0.toNatClampNeg)).toInt64))).1, (gX0_becomeAs S p0 p0 ((((xN S) p0.toNatClampNeg) + (p1.toInt64)) - ((fX0_nanoOfSecond ((xN S) p0.toNatClampNeg)).toInt64))).2)

def gX0_truncate (S : SX) (p0 : Int32) (p1 : Int32) : Int32 × SX := ((gX0_becomeAs S p0 p0 (fX0_cutNano ((xN S) p0.toNatClampNeg) p1)).1, (gX0_becomeAs S p0 p0 (fX0_cutNano ((xN S) p0.toNatClampNeg) p1)).2)

def gX0_plusYears (S : SX) (p0 : Int32) (p1 : Int32) : Int32 × SX := ((gX0_goMonths S p0 ((12 : Int64) * (p1.toInt64))).1, (gX0_goMonths S p0 ((12 : Int64) * (p1.toInt64))).2)

def gX0_minusYears (S : SX) (p0 : Int32) (p1 : Int32) : Int32 × SX := ((gX0_goMonths S p0 ((-12 : Int64) * (p1.toInt64))).1, (gX0_goMonths S p0 ((-12 : Int64) * (p1.toInt64))).2)

def gX0_plusMonths (S : SX) (p0 : Int32) (p1 : Int32) : Int32 × SX := ((gX0_goMonths S p0 (p1.toInt64)).1, (gX0_goMonths S p0 (p1.toInt64)).2)

def gX0_minusMonths (S : SX) (p0 : Int32) (p1 : Int32) : Int32 × SX := ((gX0_goMonths S p0 (-(p1.toInt64))).1, (gX0_goMonths S p0 (-(p1.toInt64))).2)

def gX0_plusWeeks (S : SX) (p0 : Int32) (p1 : Int32) : Int32 × SX := ((gX0_goUnits S p0 (p1.toInt64) (8 : Int32)).1, (gX0_goUnits S p0 (p1.toInt64) (8 : Int32)).2)

def gX0_minusWeeks (S : SX) (p0 : Int32) (p1 : Int32) : Int32 × SX := ((gX0_goUnits S p0 (-(p1.toInt64)) (8 : Int32)).1, (gX0_goUnits S p0 (-(p1.toInt64)) (8 : Int32)).2)

def gX0_plusDays (S : SX) (p0 : Int32) (p1 : Int32) : Int32 × SX := ((gX0_goUnits S p0 (p1.toInt64) (7 : Int32)).1, (gX0_goUnits S p0 (p1.toInt64) (7 : Int32)).2)

def gX0_minusDays (S : SX) (p0 : Int32) (p1 : Int32) : Int32 × SX := ((gX0_goUnits S p0 (-(p1.toInt64)) (7 : Int32)).1, (gX0_goUnits S p0 (-(p1.toInt64)) (7 : Int32)).2)

def gX0_plusHours (S : SX) (p0 : Int32) (p1 : Int32) : Int32 × SX := ((gX0_goUnits S p0 (p1.toInt64) (5 : Int32)).1, (gX0_goUnits S p0 (p1.toInt64) (5 : Int32)).2)

def gX0_minusHours (S : SX) (p0 : Int32) (p1 : Int32) : Int32 × SX := ((gX0_goUnits S p0 (-(p1.toInt64)) (5 : Int32)).1, (gX0_goUnits S p0 (-(p1.toInt64)) (5 : Int32)).2)

def gX0_plusMinutes (S : SX) (p0 : Int32) (p1 : Int32) : Int32 × SX := ((gX0_goUnits S p0 (p1.toInt64) (4 : Int32)).1, (gX0_goUnits S p0 (p1.toInt64) (4 : Int32)).2)

def gX0_minusMinutes (S : SX) (p0 : Int32) (p1 : Int32) : Int32 × SX := ((gX0_goUnits S p0 (-(p1.toInt64)) (4 : Int32)).1, (gX0_goUnits S p0 (-(p1.toInt64)) (4 : Int32)).2)

def gX0_plusSeconds (S : SX) (p0 : Int32) (p1 : Int32) : Int32 × SX := ((gX0_goUnits S p0 (p1.toInt64) (3 : Int32)).1, (gX0_goUnits S p0 (p1.toInt64) (3 : Int32)).2)

def gX0_minusSeconds (S : SX) (p0 : Int32) (p1 : Int32) : Int32 × SX := ((gX0_goUnits S p0 (-(p1.toInt64)) (3 : Int32)).1, (gX0_goUnits S p0 (-(p1.toInt64)) (3 : Int32)).2)

def gX0_plusNanos (S : SX) (p0 : Int32) (p1 : Int32) (p2 : Int32) : Int32 × SX := ((gX0_goLine S p0 (0 : Int64) (((p1.toInt64) * (1000000000 : Int64)) + (p2.toInt64))).1, (gX0_goLine S p0 (0 : Int64) (((p1.toInt64) * (1000000000 : Int64)) + (p2.toInt64))).2)

def gX0_minusNanos (S : SX) (p0 : Int32) (p1 : Int32) (p2 : Int32) : Int32 × SX := ((gX0_goLine S p0 (0 : Int64) (-(((p1.toInt64) * (1000000000 : Int64)) + (p2.toInt64)))).1, (gX0_goLine S p0 (0 : Int64) (-(((p1.toInt64) * (1000000000 : Int64)) + (p2.toInt64)))).2)

def gX0_plusUnits (S : SX) (p0 : Int32) (p1 : Int32) (p2 : Int32) : Int32 × SX := if (9 : Int32) ≤ p2 then ((gX0_goMonths S p0 ((p1.toInt64) * (fX0_monthsOfUnit p2))).1, (gX0_goMonths S p0 ((p1.toInt64) * (fX0_monthsOfUnit p2))).2) else ((gX0_goUnits S p0 (p1.toInt64) p2).1, (gX0_goUnits S p0 (p1.toInt64) p2).2)

def gX0_knock (S : SX) : Int32 × SX := (((xi S 6) + (1 : Int32)), ((xy S), (xm S), (xd S), (xD S), (xN S), (upd (S.2.2.2.2.2) 6 ((xi S 6) + (1 : Int32)))))
