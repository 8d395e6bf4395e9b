theorem le8_9 {p : Int32} (h : p ≤ (8 : Int32)) : ¬ (9 : Int32) ≤ p := fun z => by
  have a := Int32.le_iff_toInt_le.mp h
  have b := Int32.le_iff_toInt_le.mp z
  rw [show (8 : Int32).toInt = 8 from by decide] at a
  rw [show (9 : Int32).toInt = 9 from by decide] at b
  omega
theorem gt8_9 {p : Int32} (h : ¬ p ≤ (8 : Int32)) : (9 : Int32) ≤ p := by
  have a : ¬ p.toInt ≤ 8 := fun z => h (Int32.le_iff_toInt_le.mpr (by rw [show (8 : Int32).toInt = 8 from by decide]; exact z))
  exact Int32.le_iff_toInt_le.mpr (by rw [show (9 : Int32).toInt = 9 from by decide]; omega)
theorem P_nil {G : GT} {w : va_W} {H : Heap} (h : va_P (gD G) vwCl w H) : va_P (gD G) vwCl (w ++ []) H := by rw [List.append_nil]; exact h
theorem D_nil {A : Nat → Prop} {w : va_W} (h : va_D A w) : va_D A (w ++ []) := by rw [List.append_nil]; exact h
def gX0_nanoOfDay (S : SX) (p0 : Int32) : SX := S
def oX0_nanoOfDay (S : SX) (p0 : Int32) : Option (Option Int64) := (some (some ((xN S) p0.toNatClampNeg)))

def gX0_field (S : SX) (p0 : Int32) (p1 : Int32) : SX := if (14 : Int32) < p1 then S else S
def oX0_field (S : SX) (p0 : Int32) (p1 : Int32) : Option (Option Int64) := if (14 : Int32) < p1 then (some (some (fX0_dateField S p0 p1))) else (some (some (fX0_timeField ((xN S) p0.toNatClampNeg) p1)))

def gX0_gapText (S : SX) (p0 : Int32) (p1 : Int32) (p2 : Int32) : SX := if (fX0_isGapRefused S p0 p1 p2) = 0 then (if (9 : Int32) ≤ p2 then S else S) else (gX0_refuse S).2
def oX0_gapText (S : SX) (p0 : Int32) (p1 : Int32) (p2 : Int32) : Option (Option Int64) := if (fX0_isGapRefused S p0 p1 p2) = 0 then (if (9 : Int32) ≤ p2 then (some (some (fX0_quotient (fX0_gapInMonths S p0 p1) (fX0_monthsOfUnit p2)))) else (some (some (fX0_gapInUnits S p0 p1 p2)))) else (some none)

def gX0_between (S : SX) (p0 : Int32) (p1 : Int32) (p2 : Int32) : SX := (gX0_gapText S p0 p1 p2)
def oX0_between (S : SX) (p0 : Int32) (p1 : Int32) (p2 : Int32) : Option (Option Int64) := (oX0_gapText S p0 p1 p2)

def gX0_until (S : SX) (p0 : Int32) (p1 : Int32) (p2 : Int32) : SX := (gX0_gapText S p0 p1 p2)
def oX0_until (S : SX) (p0 : Int32) (p1 : Int32) (p2 : Int32) : Option (Option Int64) := (oX0_gapText S p0 p1 p2)

def gX2_nanoOfDay (T : SM) (p0 : Int32) : SM := if (frf (fX2_isNone p0) (0 : Int32)) = 0 then ((fth (fX2_isNone p0) (0 : Int32)), (my T), (mm T), (md T), (mt T), (T.2.2.2.2.2)) else ((fth (fX2_isNone p0) (0 : Int32)), (my T), (mm T), (md T), (mt T), (T.2.2.2.2.2))
def oX2_nanoOfDay (T : SM) (p0 : Int32) : Option (Option Int64) := if (frf (fX2_isNone p0) (0 : Int32)) = 0 then (some (some ((mt T) p0.toNatClampNeg))) else none

def gX2_field (T : SM) (p0 : Int32) (p1 : Int32) : SM := if (frf (fX2_isNone p0) (if (fX2_isFrom (0 : Int32) (27 : Int32) p1) = 0 then (1 : Int32) else (0 : Int32))) = 0 then (if (15 : Int32) ≤ p1 then ((fth (fX2_isNone p0) (if (fX2_isFrom (0 : Int32) (27 : Int32) p1) = 0 then (1 : Int32) else (0 : Int32))), (my T), (mm T), (md T), (mt T), (T.2.2.2.2.2)) else ((fth (fX2_isNone p0) (if (fX2_isFrom (0 : Int32) (27 : Int32) p1) = 0 then (1 : Int32) else (0 : Int32))), (my T), (mm T), (md T), (mt T), (T.2.2.2.2.2))) else ((fth (fX2_isNone p0) (if (fX2_isFrom (0 : Int32) (27 : Int32) p1) = 0 then (1 : Int32) else (0 : Int32))), (my T), (mm T), (md T), (mt T), (T.2.2.2.2.2))
def oX2_field (T : SM) (p0 : Int32) (p1 : Int32) : Option (Option Int64) := if (frf (fX2_isNone p0) (if (fX2_isFrom (0 : Int32) (27 : Int32) p1) = 0 then (1 : Int32) else (0 : Int32))) = 0 then (if (15 : Int32) ≤ p1 then (some (some (fX2_ofDate ((fth (fX2_isNone p0) (if (fX2_isFrom (0 : Int32) (27 : Int32) p1) = 0 then (1 : Int32) else (0 : Int32))), (my T), (mm T), (md T), (mt T), (T.2.2.2.2.2)) p0 p1))) else (some (some (fX2_ofTime ((fth (fX2_isNone p0) (if (fX2_isFrom (0 : Int32) (27 : Int32) p1) = 0 then (1 : Int32) else (0 : Int32))), (my T), (mm T), (md T), (mt T), (T.2.2.2.2.2)) p0 p1)))) else none

def gX2_betweenNow (T : SM) (p0 : Int32) (p1 : Int32) (p2 : Int32) : SM := if p2 = 0 then (if (if (lg_cmp (fJ9_abs_067f4 ((fX2_dayNow T p0) - (fX2_dayNow T p1))) (100000 : Int64)) ≤ 0 then (0 : Int32) else (1 : Int32)) = 0 then T else ((mth T), (my T), (mm T), (md T), (mt T), (upd (T.2.2.2.2.2) 5 ((mi T 5) + (1 : Int32))))) else if p2 ≤ (8 : Int32) then T else if (28 : Int32) < ((md T) p0.toNatClampNeg) then ((mth T), (my T), (mm T), (md T), (mt T), (upd (T.2.2.2.2.2) 5 ((mi T 5) + (1 : Int32)))) else if ((md T) p1.toNatClampNeg) ≤ (28 : Int32) then (if 0 < (fX2_order T p0 p1) then T else T) else ((mth T), (my T), (mm T), (md T), (mt T), (upd (T.2.2.2.2.2) 5 ((mi T 5) + (1 : Int32))))
def oX2_betweenNow (T : SM) (p0 : Int32) (p1 : Int32) (p2 : Int32) : Option (Option Int64) := if p2 = 0 then (if (if (lg_cmp (fJ9_abs_067f4 ((fX2_dayNow T p0) - (fX2_dayNow T p1))) (100000 : Int64)) ≤ 0 then (0 : Int32) else (1 : Int32)) = 0 then (some (some (fX2_lineBetween T p0 p1 p2))) else (some none)) else if p2 ≤ (8 : Int32) then (some (some (fX2_lineBetween T p0 p1 p2))) else if (28 : Int32) < ((md T) p0.toNatClampNeg) then (some none) else if ((md T) p1.toNatClampNeg) ≤ (28 : Int32) then (if 0 < (fX2_order T p0 p1) then (some (some ((-(fX2_monthsBack T p0 p1)) / ((fX2_monthsOf p2).toInt64)))) else (some (some ((fX2_monthsOn T p0 p1) / ((fX2_monthsOf p2).toInt64))))) else (some none)

def gX2_between (T : SM) (p0 : Int32) (p1 : Int32) (p2 : Int32) : SM := if (fX2_isNone p0) = 0 then (if (frf (if (fX2_isNone p1) = 0 then (0 : Int32) else (1 : Int32)) (if (fX2_isFrom (0 : Int32) (13 : Int32) p2) = 0 then (1 : Int32) else (0 : Int32))) = 0 then (gX2_betweenNow ((fth (if (fX2_isNone p1) = 0 then (0 : Int32) else (1 : Int32)) (if (fX2_isFrom (0 : Int32) (13 : Int32) p2) = 0 then (1 : Int32) else (0 : Int32))), (my T), (mm T), (md T), (mt T), (T.2.2.2.2.2)) p0 p1 p2) else ((fth (if (fX2_isNone p1) = 0 then (0 : Int32) else (1 : Int32)) (if (fX2_isFrom (0 : Int32) (13 : Int32) p2) = 0 then (1 : Int32) else (0 : Int32))), (my T), (mm T), (md T), (mt T), (T.2.2.2.2.2))) else ((fth (1 : Int32) (if (fX2_isFrom (0 : Int32) (13 : Int32) p2) = 0 then (1 : Int32) else (0 : Int32))), (my T), (mm T), (md T), (mt T), (T.2.2.2.2.2))
def oX2_between (T : SM) (p0 : Int32) (p1 : Int32) (p2 : Int32) : Option (Option Int64) := if (fX2_isNone p0) = 0 then (if (frf (if (fX2_isNone p1) = 0 then (0 : Int32) else (1 : Int32)) (if (fX2_isFrom (0 : Int32) (13 : Int32) p2) = 0 then (1 : Int32) else (0 : Int32))) = 0 then (oX2_betweenNow ((fth (if (fX2_isNone p1) = 0 then (0 : Int32) else (1 : Int32)) (if (fX2_isFrom (0 : Int32) (13 : Int32) p2) = 0 then (1 : Int32) else (0 : Int32))), (my T), (mm T), (md T), (mt T), (T.2.2.2.2.2)) p0 p1 p2) else none) else none

def gX2_until (T : SM) (p0 : Int32) (p1 : Int32) (p2 : Int32) : SM := if (fX2_isNone p0) = 0 then (if (frf (if (fX2_isNone p1) = 0 then (0 : Int32) else (1 : Int32)) (if (fX2_isFrom (0 : Int32) (13 : Int32) p2) = 0 then (1 : Int32) else (0 : Int32))) = 0 then (gX2_betweenNow ((fth (if (fX2_isNone p1) = 0 then (0 : Int32) else (1 : Int32)) (if (fX2_isFrom (0 : Int32) (13 : Int32) p2) = 0 then (1 : Int32) else (0 : Int32))), (my T), (mm T), (md T), (mt T), (T.2.2.2.2.2)) p0 p1 p2) else ((fth (if (fX2_isNone p1) = 0 then (0 : Int32) else (1 : Int32)) (if (fX2_isFrom (0 : Int32) (13 : Int32) p2) = 0 then (1 : Int32) else (0 : Int32))), (my T), (mm T), (md T), (mt T), (T.2.2.2.2.2))) else ((fth (1 : Int32) (if (fX2_isFrom (0 : Int32) (13 : Int32) p2) = 0 then (1 : Int32) else (0 : Int32))), (my T), (mm T), (md T), (mt T), (T.2.2.2.2.2))
def oX2_until (T : SM) (p0 : Int32) (p1 : Int32) (p2 : Int32) : Option (Option Int64) := if (fX2_isNone p0) = 0 then (if (frf (if (fX2_isNone p1) = 0 then (0 : Int32) else (1 : Int32)) (if (fX2_isFrom (0 : Int32) (13 : Int32) p2) = 0 then (1 : Int32) else (0 : Int32))) = 0 then (oX2_betweenNow ((fth (if (fX2_isNone p1) = 0 then (0 : Int32) else (1 : Int32)) (if (fX2_isFrom (0 : Int32) (13 : Int32) p2) = 0 then (1 : Int32) else (0 : Int32))), (my T), (mm T), (md T), (mt T), (T.2.2.2.2.2)) p0 p1 p2) else none) else none

def gX2_betweenNow5 (T : SM) (p0 : Int32) (p1 : Int32) : SM := T
