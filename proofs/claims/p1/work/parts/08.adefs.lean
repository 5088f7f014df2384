def F_feed (xa : Int32) (xb : Int32) (xc : Int32) (xd : Int32) (xe : Int32) : Int32 := 20
def F_contract : Int32 := -6
def F_go (xa : Int32) : Int32 := if (1 ≤ xa.toInt ∧ xa.toInt ≤ 480) then xa else -1
def F_best (xa : Int32) : Int64 := if (0 ≤ xa.toInt ∧ xa.toInt ≤ 2399) then 0 else -1
