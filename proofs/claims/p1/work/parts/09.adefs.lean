def F_image (xa : Int32) : Int32 := if (0 ≤ xa.toInt ∧ xa.toInt ≤ 1) then 0 else -1
