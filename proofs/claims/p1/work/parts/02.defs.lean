def F_ship (xa : Int32) (xb : Int32) (xc : Int32) : Int32 := if (1000 ≤ xb.toInt ∧ xb.toInt ≤ 200000) ∧ (1 ≤ xc.toInt ∧ xc.toInt ≤ 50) then -2 else -1
def F_way (xa : Int32) (xb : Int32) (xc : Int32) (xd : Int32) : Int32 := if (1 ≤ xc.toInt ∧ xc.toInt ≤ 400) then -2 else -1
def F_tide (xa : Int32) (xb : Int32) : Int32 := if (0 ≤ xa.toInt ∧ xa.toInt ≤ 24) ∧ (0 ≤ xb.toInt ∧ xb.toInt ≤ 9) then 0 else -1
def F_sea (xa : Int32) (xb : Int32) : Int32 := if (0 ≤ xa.toInt ∧ xa.toInt ≤ 99) ∧ (0 ≤ xb.toInt ∧ xb.toInt ≤ 9) then 0 else -1
def F_slot (xa : Int32) (xb : Int32) (xc : Int32) (xd : Int32) : Int32 := if ((0 ≤ xc.toInt ∧ xc.toInt ≤ 2399) ∧ (0 ≤ xd.toInt ∧ xd.toInt ≤ 2399) ∧ xc.toInt ≤ xd.toInt) then -2 else -1
def F_broken (xa : Int32) (xb : Int32) (xc : Int32) : Int32 := if ((0 ≤ xb.toInt ∧ xb.toInt ≤ 2399) ∧ (0 ≤ xc.toInt ∧ xc.toInt ≤ 2399) ∧ xb.toInt ≤ xc.toInt) then -2 else -1
def F_terms (xa : Int32) (xb : Int32) : Int32 := if (0 ≤ xa.toInt ∧ xa.toInt ≤ 100) ∧ (1 ≤ xb.toInt ∧ xb.toInt ≤ 1000) then 0 else -1
def F_order (xa : Int32) (xb : Int32) (xc : Int32) : Int32 := if (xb.toInt = 0 ∨ ((xb.toInt = 1 ∨ xb.toInt = 2) ∧ (1 ≤ xc.toInt ∧ xc.toInt ≤ 200000)) ∨ (xb.toInt = 3 ∧ (0 ≤ xc.toInt ∧ xc.toInt ≤ 2399))) then -2 else -1
def F_of (xa : Int32) (xb : Int32) : Int32 := -1
def F_part (xa : Int32) (xb : Int32) : Int32 := -1
def F_book (xa : Int32) (xb : Int32) : Int64 := -1
def F_store (xa : Int32) : Int32 := -1
def F_landing (xa : Int32) (xb : Int32) : Int32 := -1
def F_led (xa : Int32) (xb : Int32) : Int32 := -1
def F_heat (xa : Int32) (xb : Int32) : Int32 := if (500 ≤ xb.toInt ∧ xb.toInt ≤ 2000) then -2 else -1
def F_bill (xa : Int32) (xb : Int32) : Int32 := if (0 ≤ xb.toInt ∧ xb.toInt ≤ 200000) then -2 else -1
def F_due (xa : Int32) (xb : Int32) (xc : Int32) (xd : Int32) : Int64 := (-2000000000000000)
def F_settle (xa : Int32) (xb : Int32) : Int32 := -2
def F_settled (xa : Int32) (xb : Int32) : Int64 := (-2000000000000000)
def F_table (xa : Int32) (xb : Int32) (xc : Int32) (xd : Int32) : Int32 := if (0 ≤ xb.toInt ∧ xb.toInt ≤ 3) ∧ (0 ≤ xc.toInt ∧ xc.toInt ≤ 5000) ∧ (0 ≤ xd.toInt ∧ xd.toInt ≤ 200000) then -2 else -1
def F_list (xa : Int32) (xb : Int32) : Int32 := if (-50 ≤ xb.toInt ∧ xb.toInt ≤ 50) then -2 else -1
def F_reading (xa : Int32) (xb : Int32) (xc : Int32) (xd : Int32) (xe : Int32) : Int32 := if (0 ≤ xb.toInt ∧ xb.toInt ≤ 1) ∧ (0 ≤ xc.toInt ∧ xc.toInt ≤ 5000) ∧ (-20 ≤ xd.toInt ∧ xd.toInt ≤ 20) ∧ (0 ≤ xe.toInt ∧ xe.toInt ≤ 2399) then -2 else -1
def F_gauged (xa : Int32) (xb : Int32) (xc : Int32) : Int64 := (-2000000000000000)
def F_cargo (xa : Int32) (xb : Int32) (xc : Int32) (xd : Int32) (xe : Int32) (xf : Int32) (xg : Int32) (xh : Int32) : Int32 := if ((0 ≤ xc.toInt ∧ xc.toInt ≤ 2399) ∧ (0 ≤ xd.toInt ∧ xd.toInt ≤ 2399) ∧ xc.toInt ≤ xd.toInt) ∧ ((0 ≤ xe.toInt ∧ xe.toInt ≤ 2399) ∧ (0 ≤ xf.toInt ∧ xf.toInt ≤ 2399) ∧ xe.toInt ≤ xf.toInt) ∧ (1 ≤ xg.toInt ∧ xg.toInt ≤ 200000) ∧ (0 ≤ xh.toInt ∧ xh.toInt ≤ 1000) then -2 else -1
def F_clear : Int32 := 0
def F_voyage (xa : Int32) (xb : Int32) : Int64 := (-2000000000000000)
def F_judge (xa : Int32) (xb : Int32) (xc : Int32) (xd : Int32) (xe : Int32) : Int64 := (-2000000000000000)
def F_end (xa : Int32) : Int32 := if xa.toInt = 0 then 0 else -1
def F_fault : Int32 := -1
def F_status : Int32 := 0
def F_back (xa : Int32) : Int32 := if (0 ≤ xa.toInt ∧ xa.toInt ≤ 1) then -2 else -1
def F_count (xa : Int32) : Int32 := if (0 ≤ xa.toInt ∧ xa.toInt ≤ 8) then 0 else -1
def rw0 : Nat → Int32 := upd (upd (fun _ => 0) 12 10) 13 700
def F_terminal (xa : Int32) (xb : Int32) (xc : Int32) (xd : Int32) : Int32 := if (0 ≤ xb.toInt ∧ xb.toInt ≤ 500000) ∧ (0 ≤ xa.toInt ∧ xa.toInt ≤ xb.toInt) ∧ (1 ≤ xc.toInt ∧ xc.toInt ≤ 10000) ∧ (0 ≤ xd.toInt ∧ xd.toInt ≤ 30) then 0 else -1
def F_price (xa : Int32) (xb : Int32) (xc : Int32) : Int32 := if (0 ≤ xa.toInt ∧ xa.toInt ≤ 99) ∧ (0 ≤ xb.toInt ∧ xb.toInt ≤ 10000) ∧ (0 ≤ xc.toInt ∧ xc.toInt ≤ 2399) then 1 else -1
def F_force (xa : Int32) (xb : Int32) (xc : Int32) : Int32 := if ((0 ≤ xa.toInt ∧ xa.toInt ≤ 2399) ∧ (0 ≤ xb.toInt ∧ xb.toInt ≤ 2399) ∧ xa.toInt ≤ xb.toInt) ∧ (0 ≤ xc.toInt ∧ xc.toInt ≤ 2399) then 1 else -1
