def dXd (D : Int64) : Int32 := (((D - (fX0_firstDayOf (fX0_yearOf D))).toInt32) + (1 : Int32))
def dXm (D : Int64) : Int32 := fX0_monthOf (fX0_yearOf D) (dXd D)
def dXq (D : Int64) : Int32 := dXd D - fX0_daysAhead (fX0_yearOf D) (dXm D)
