theorem goodIn_r {big : List Cond} (ws : List Cond) (ps : List Nat) (hp : ws = ps.filterMap (fun i => big[i]?)) (h : ws.all goodWord = true) : GoodIn big ws := by
  intro w hw
  have h1 := List.all_eq_true.mp h w hw
  rw [hp] at hw
  obtain ⟨i, -, hi⟩ := List.mem_filterMap.mp hw
  have hm : w ∈ big := by first | exact List.mem_of_getElem? hi | exact List.getElem?_mem hi
  exact ⟨hm, good_of_word h1⟩
theorem goodIn_app {big a b : List Cond} (ha : GoodIn big a) (hb : GoodIn big b) : GoodIn big (a ++ b) := fun w h => (List.mem_append.mp h).elim (ha w) (hb w)
def RX0 : String := "ColdShips$Contract"
def TX0 : u_T := fun k => match k with
  | 0 => ("ColdShips$Contract", "code", "[I", true)
  | 1 => ("ColdShips$Contract", "starts", "[I", true)
  | 2 => ("ColdShips$Contract", "windowFrom", "I", true)
  | 3 => ("ColdShips$Contract", "windowTo", "I", true)
  | _ => ("ColdShips$Contract", "place", "I", true)
abbrev wsX00 : List Cond := u_ws RX0 TX0 5
def RX1 : String := "ColdShips$Planner"
def TX1 : u_T := fun k => match k with
  | 0 => ("ColdShips$Planner", "world", "LColdShips$World;", true)
  | 1 => ("ColdShips$Planner", "rowWorths", "[J", true)
  | 2 => ("ColdShips$Planner", "rowPlaces", "[I", true)
  | 3 => ("ColdShips$Planner", "setWorths", "[J", true)
  | 4 => ("ColdShips$Planner", "setShips", "[I", true)
  | 5 => ("ColdShips$Planner", "loadAt", "I", false)
  | 6 => ("ColdShips$Planner", "landAt", "I", false)
  | 7 => ("ColdShips$Planner", "freeAt", "I", false)
  | 8 => ("ColdShips$Planner", "worth", "J", false)
  | 9 => ("ColdShips$Planner", "planned", "I", false)
  | 10 => ("ColdShips$Planner", "shipOf", "[I", true)
  | 11 => ("ColdShips$Planner", "placeOf", "[I", true)
  | 12 => ("ColdShips$Planner", "loadOf", "[I", true)
  | 13 => ("ColdShips$Planner", "landOf", "[I", true)
  | _ => ("ColdShips$Planner", "worthOf", "[J", true)
abbrev wsX10 : List Cond := u_ws RX1 TX1 15
abbrev cX1_sails : ByteArray := prog_3_method_2_code
def yX1_sails : MethodName := ⟨RX1, "sails", "(I)Z"⟩
abbrev cX1_worthOfRow : ByteArray := prog_3_method_12_code
def yX1_worthOfRow : MethodName := ⟨RX1, "worthOfRow", "(IIIII)J"⟩
abbrev cX1_reckon : ByteArray := prog_3_method_13_code
def yX1_reckon : MethodName := ⟨RX1, "reckon", "(IIII)Z"⟩
def RX2 : String := "ColdShips$Reader"
def TX2 : u_T := fun k => match k with
  | 0 => ("ColdShips$Reader", "tape", "[C", true)
  | 1 => ("ColdShips$Reader", "size", "I", false)
  | 2 => ("ColdShips$Reader", "faultAt", "I", false)
  | 3 => ("ColdShips$Reader", "place", "I", false)
  | 4 => ("ColdShips$Reader", "kind", "I", false)
  | 5 => ("ColdShips$Reader", "behind", "I", false)
  | 6 => ("ColdShips$Reader", "value", "I", false)
  | 7 => ("ColdShips$Reader", "code", "[I", true)
  | 8 => ("ColdShips$Reader", "cells", "I", false)
  | 9 => ("ColdShips$Reader", "starts", "[I", true)
  | 10 => ("ColdShips$Reader", "sums", "I", false)
  | 11 => ("ColdShips$Reader", "leaves", "I", false)
  | 12 => ("ColdShips$Reader", "brackets", "I", false)
  | 13 => ("ColdShips$Reader", "windowFrom", "I", false)
  | 14 => ("ColdShips$Reader", "windowTo", "I", false)
  | _ => ("ColdShips$Reader", "wantedPlace", "I", false)
def tyX2 : Nat → FieldType := fun k => match k with
  | 0 => .array .char
  | 1 => .int
  | 2 => .int
  | 3 => .int
  | 4 => .int
  | 5 => .int
  | 6 => .int
  | 7 => .array .int
  | 8 => .int
  | 9 => .array .int
  | 10 => .int
  | 11 => .int
  | 12 => .int
  | 13 => .int
  | 14 => .int
  | _ => .int
abbrev wsX20 : List Cond := u_ws RX2 TX2 16
theorem nmX2 : ∀ a, a < 16 → ∀ b, b < 16 → a ≠ b → (TX2 a).2.1 ≠ (TX2 b).2.1 := by decide +kernel
theorem tyX2_ok : ∀ k, k < 16 → parseFieldDescriptor (TX2 k).2.2.1 = some (tyX2 k) := by decide +kernel
def yX2_init : MethodName := ⟨RX2, "<init>", "()V"⟩
def RX3 : String := "ColdShips$Reckoner"
def TX3 : u_T := fun k => match k with
  | 0 => ("ColdShips$Reckoner", "world", "LColdShips$World;", true)
  | 1 => ("ColdShips$Reckoner", "facts", "[J", true)
  | 2 => ("ColdShips$Reckoner", "stack", "[J", true)
  | 3 => ("ColdShips$Reckoner", "depth", "I", false)
  | 4 => ("ColdShips$Reckoner", "pays", "J", false)
  | _ => ("ColdShips$Reckoner", "fines", "J", false)
abbrev wsX30 : List Cond := u_ws RX3 TX3 6
abbrev cX3_reckon : ByteArray := prog_5_method_2_code
def yX3_reckon : MethodName := ⟨RX3, "reckon", "(ILColdShips$Contract;I)V"⟩
abbrev cX3_findFacts : ByteArray := prog_5_method_3_code
def yX3_findFacts : MethodName := ⟨RX3, "findFacts", "(ILColdShips$Contract;I)V"⟩
abbrev cX3_runClause : ByteArray := prog_5_method_4_code
def yX3_runClause : MethodName := ⟨RX3, "runClause", "([III)V"⟩
abbrev cX3_combine : ByteArray := prog_5_method_5_code
def yX3_combine : MethodName := ⟨RX3, "combine", "(I)Z"⟩
abbrev cX3_pushSum : ByteArray := prog_5_method_6_code
def yX3_pushSum : MethodName := ⟨RX3, "pushSum", "(J)Z"⟩
abbrev cX3_push : ByteArray := prog_5_method_7_code
def yX3_push : MethodName := ⟨RX3, "push", "(J)V"⟩
abbrev cX3_pop : ByteArray := prog_5_method_8_code
def yX3_pop : MethodName := ⟨RX3, "pop", "()J"⟩
abbrev cX3_tonsRead : ByteArray := prog_5_method_9_code
def yX3_tonsRead : MethodName := ⟨RX3, "tonsRead", "(III)J"⟩
abbrev cX3_tonsGauged : ByteArray := prog_5_method_10_code
def yX3_tonsGauged : MethodName := ⟨RX3, "tonsGauged", "(II)J"⟩
abbrev cX3_claimOf : ByteArray := prog_5_method_11_code
def yX3_claimOf : MethodName := ⟨RX3, "claimOf", "(II)J"⟩
def RX4 : String := "ColdShips$Rows"
def TX4 : u_T := fun k => match k with
  | 0 => ("ColdShips$Rows", "width", "I", true)
  | 1 => ("ColdShips$Rows", "cells", "[J", true)
  | _ => ("ColdShips$Rows", "size", "I", false)
def tyX4 : Nat → FieldType := fun k => match k with
  | 0 => .int
  | 1 => .array .long
  | _ => .int
abbrev wsX40 : List Cond := u_ws RX4 TX4 3
theorem nmX4 : ∀ a, a < 3 → ∀ b, b < 3 → a ≠ b → (TX4 a).2.1 ≠ (TX4 b).2.1 := by decide +kernel
theorem tyX4_ok : ∀ k, k < 3 → parseFieldDescriptor (TX4 k).2.2.1 = some (tyX4 k) := by decide +kernel
abbrev cX4_has : ByteArray := prog_6_method_2_code
def yX4_has : MethodName := ⟨RX4, "has", "(I)Z"⟩
abbrev cX4_addRow : ByteArray := prog_6_method_3_code
def yX4_addRow : MethodName := ⟨RX4, "addRow", "()I"⟩
abbrev cX4_at : ByteArray := prog_6_method_4_code
def yX4_at : MethodName := ⟨RX4, "at", "(II)J"⟩
abbrev cX4_number : ByteArray := prog_6_method_5_code
def yX4_number : MethodName := ⟨RX4, "number", "(II)I"⟩
abbrev cX4_set : ByteArray := prog_6_method_6_code
def yX4_set : MethodName := ⟨RX4, "set", "(IIJ)V"⟩
abbrev cX4_copyFrom : ByteArray := prog_6_method_7_code
def yX4_copyFrom : MethodName := ⟨RX4, "copyFrom", "(LColdShips$Rows;)V"⟩
def RX5 : String := "ColdShips$Ship"
def TX5 : u_T := fun k => match k with
  | 0 => ("ColdShips$Ship", "tank", "LColdShips$Tank;", true)
  | 1 => ("ColdShips$Ship", "fuel", "I", false)
  | 2 => ("ColdShips$Ship", "where", "I", false)
  | 3 => ("ColdShips$Ship", "left", "I", false)
  | 4 => ("ColdShips$Ship", "half", "I", false)
  | 5 => ("ColdShips$Ship", "drifting", "Z", false)
  | 6 => ("ColdShips$Ship", "orders", "I", false)
  | 7 => ("ColdShips$Ship", "orderSorts", "[I", true)
  | 8 => ("ColdShips$Ship", "orderWhats", "[I", true)
  | 9 => ("ColdShips$Ship", "book", "[J", true)
  | 10 => ("ColdShips$Ship", "landFirst", "I", false)
  | 11 => ("ColdShips$Ship", "landLast", "I", false)
  | 12 => ("ColdShips$Ship", "landTons", "I", false)
  | 13 => ("ColdShips$Ship", "landParts", "[I", true)
  | 14 => ("ColdShips$Ship", "list", "I", false)
  | 15 => ("ColdShips$Ship", "gaugeCentimetres", "[I", true)
  | _ => ("ColdShips$Ship", "gaugeTons", "[I", true)
abbrev wsX50 : List Cond := u_ws RX5 TX5 17
def yX5_init : MethodName := ⟨RX5, "<init>", "()V"⟩
abbrev cX5_begin : ByteArray := prog_7_method_2_code
def yX5_begin : MethodName := ⟨RX5, "begin", "(III)V"⟩
abbrev cX5_addOrder : ByteArray := prog_7_method_3_code
def yX5_addOrder : MethodName := ⟨RX5, "addOrder", "(II)V"⟩
abbrev cX5_tonsLeft : ByteArray := prog_7_method_5_code
def yX5_tonsLeft : MethodName := ⟨RX5, "tonsLeft", "()I"⟩
abbrev cX5_forgetLanding : ByteArray := prog_7_method_8_code
def yX5_forgetLanding : MethodName := ⟨RX5, "forgetLanding", "()V"⟩
abbrev cX5_gaugeCounts : ByteArray := prog_7_method_9_code
def yX5_gaugeCounts : MethodName := ⟨RX5, "gaugeCounts", "()Z"⟩
abbrev cX5_tonsAt : ByteArray := prog_7_method_10_code
def yX5_tonsAt : MethodName := ⟨RX5, "tonsAt", "(I)J"⟩
abbrev cX5_copyFrom : ByteArray := prog_7_method_11_code
def yX5_copyFrom : MethodName := ⟨RX5, "copyFrom", "(LColdShips$Ship;)V"⟩
def RX6 : String := "ColdShips$Spans"
def TX6 : u_T := fun k => match k with
  | 0 => ("ColdShips$Spans", "owners", "[I", true)
  | 1 => ("ColdShips$Spans", "begins", "[I", true)
  | 2 => ("ColdShips$Spans", "ends", "[I", true)
  | _ => ("ColdShips$Spans", "size", "I", false)
abbrev wsX60 : List Cond := u_ws RX6 TX6 4
abbrev cX6_add : ByteArray := prog_8_method_2_code
def yX6_add : MethodName := ⟨RX6, "add", "(III)I"⟩
abbrev cX6_meets : ByteArray := prog_8_method_3_code
def yX6_meets : MethodName := ⟨RX6, "meets", "(IIII)Z"⟩
abbrev cX6_freeHours : ByteArray := prog_8_method_4_code
def yX6_freeHours : MethodName := ⟨RX6, "freeHours", "(IIII)I"⟩
abbrev cX6_hourBehind : ByteArray := prog_8_method_5_code
def yX6_hourBehind : MethodName := ⟨RX6, "hourBehind", "(IIII)I"⟩
abbrev cX6_copyFrom : ByteArray := prog_8_method_6_code
def yX6_copyFrom : MethodName := ⟨RX6, "copyFrom", "(LColdShips$Spans;)V"⟩
def RX7 : String := "ColdShips$Tank"
def TX7 : u_T := fun k => match k with
  | 0 => ("ColdShips$Tank", "cap", "I", false)
  | 1 => ("ColdShips$Tank", "gas", "I", false)
  | 2 => ("ColdShips$Tank", "vapor", "I", false)
  | 3 => ("ColdShips$Tank", "warm", "I", false)
  | 4 => ("ColdShips$Tank", "parts", "[I", true)
  | 5 => ("ColdShips$Tank", "given", "[I", true)
  | _ => ("ColdShips$Tank", "rests", "[J", true)
abbrev wsX70 : List Cond := u_ws RX7 TX7 7
def yX7_init : MethodName := ⟨RX7, "<init>", "()V"⟩
abbrev cX7_begin : ByteArray := prog_9_method_2_code
def yX7_begin : MethodName := ⟨RX7, "begin", "(I)V"⟩
abbrev cX7_top : ByteArray := prog_9_method_4_code
def yX7_top : MethodName := ⟨RX7, "top", "()I"⟩
abbrev cX7_draft : ByteArray := prog_9_method_5_code
def yX7_draft : MethodName := ⟨RX7, "draft", "()I"⟩
abbrev cX7_press : ByteArray := prog_9_method_6_code
def yX7_press : MethodName := ⟨RX7, "press", "()I"⟩
abbrev cX7_copyFrom : ByteArray := prog_9_method_13_code
def yX7_copyFrom : MethodName := ⟨RX7, "copyFrom", "(LColdShips$Tank;)V"⟩
abbrev cX7_space : ByteArray := prog_9_method_16_code
def yX7_space : MethodName := ⟨RX7, "space", "()I"⟩
def RX8 : String := "ColdShips$Terminal"
def TX8 : u_T := fun k => match k with
  | 0 => ("ColdShips$Terminal", "store", "I", false)
  | 1 => ("ColdShips$Terminal", "cap", "I", false)
  | 2 => ("ColdShips$Terminal", "rate", "I", false)
  | 3 => ("ColdShips$Terminal", "depth", "I", false)
  | 4 => ("ColdShips$Terminal", "heat", "I", false)
  | 5 => ("ColdShips$Terminal", "wayHours", "[I", true)
  | _ => ("ColdShips$Terminal", "wayHalf", "[I", true)
abbrev wsX80 : List Cond := u_ws RX8 TX8 7
def yX8_init : MethodName := ⟨RX8, "<init>", "()V"⟩
abbrev cX8_tellWay : ByteArray := prog_10_method_3_code
def yX8_tellWay : MethodName := ⟨RX8, "tellWay", "(IIZ)V"⟩
abbrev cX8_hoursFor : ByteArray := prog_10_method_4_code
def yX8_hoursFor : MethodName := ⟨RX8, "hoursFor", "(I)I"⟩
abbrev cX8_copyFrom : ByteArray := prog_10_method_5_code
def yX8_copyFrom : MethodName := ⟨RX8, "copyFrom", "(LColdShips$Terminal;)V"⟩
def RX9 : String := "ColdShips$Watch"
def TX9 : u_T := fun k => match k with
  | 0 => ("ColdShips$Watch", "world", "LColdShips$World;", true)
  | 1 => ("ColdShips$Watch", "hour", "I", false)
  | 2 => ("ColdShips$Watch", "sea", "I", false)
  | _ => ("ColdShips$Watch", "turnTaken", "Z", false)
def RX10 : String := "ColdShips$World"
def TX10 : u_T := fun k => match k with
  | 0 => ("ColdShips$World", "now", "I", false)
  | 1 => ("ColdShips$World", "boils", "I", false)
  | 2 => ("ColdShips$World", "limit", "I", false)
  | 3 => ("ColdShips$World", "ordersGiven", "I", false)
  | 4 => ("ColdShips$World", "terminalCount", "I", false)
  | 5 => ("ColdShips$World", "shipCount", "I", false)
  | 6 => ("ColdShips$World", "contractCount", "I", false)
  | 7 => ("ColdShips$World", "tides", "[I", true)
  | 8 => ("ColdShips$World", "seas", "[I", true)
  | 9 => ("ColdShips$World", "terminals", "[LColdShips$Terminal;", true)
  | 10 => ("ColdShips$World", "ships", "[LColdShips$Ship;", true)
  | 11 => ("ColdShips$World", "contracts", "[LColdShips$Contract;", true)
  | 12 => ("ColdShips$World", "slots", "LColdShips$Spans;", true)
  | 13 => ("ColdShips$World", "breaks", "LColdShips$Spans;", true)
  | 14 => ("ColdShips$World", "forces", "LColdShips$Spans;", true)
  | 15 => ("ColdShips$World", "prices", "LColdShips$Rows;", true)
  | 16 => ("ColdShips$World", "readings", "LColdShips$Rows;", true)
  | 17 => ("ColdShips$World", "landings", "LColdShips$Rows;", true)
  | _ => ("ColdShips$World", "cargoes", "LColdShips$Rows;", true)
def tyX10 : Nat → FieldType := fun k => match k with
  | 0 => .int
  | 1 => .int
  | 2 => .int
  | 3 => .int
  | 4 => .int
  | 5 => .int
  | 6 => .int
  | 7 => .array .int
  | 8 => .array .int
  | 9 => .array (.object "ColdShips$Terminal")
  | 10 => .array (.object "ColdShips$Ship")
  | 11 => .array (.object "ColdShips$Contract")
  | 12 => .object "ColdShips$Spans"
  | 13 => .object "ColdShips$Spans"
  | 14 => .object "ColdShips$Spans"
  | 15 => .object "ColdShips$Rows"
  | 16 => .object "ColdShips$Rows"
  | 17 => .object "ColdShips$Rows"
  | _ => .object "ColdShips$Rows"
abbrev wsX100 : List Cond := u_ws RX10 TX10 19
theorem nmX10 : ∀ a, a < 19 → ∀ b, b < 19 → a ≠ b → (TX10 a).2.1 ≠ (TX10 b).2.1 := by decide +kernel
theorem tyX10_ok : ∀ k, k < 19 → parseFieldDescriptor (TX10 k).2.2.1 = some (tyX10 k) := by decide +kernel
abbrev cX10_hasTerminal : ByteArray := prog_12_method_2_code
def yX10_hasTerminal : MethodName := ⟨RX10, "hasTerminal", "(I)Z"⟩
abbrev cX10_hasShip : ByteArray := prog_12_method_3_code
def yX10_hasShip : MethodName := ⟨RX10, "hasShip", "(I)Z"⟩
abbrev cX10_hasContract : ByteArray := prog_12_method_4_code
def yX10_hasContract : MethodName := ⟨RX10, "hasContract", "(I)Z"⟩
abbrev cX10_isSettled : ByteArray := prog_12_method_5_code
def yX10_isSettled : MethodName := ⟨RX10, "isSettled", "(I)Z"⟩
abbrev cX10_hoursBetween : ByteArray := prog_12_method_6_code
def yX10_hoursBetween : MethodName := ⟨RX10, "hoursBetween", "(II)I"⟩
abbrev cX10_heatOf : ByteArray := prog_12_method_7_code
def yX10_heatOf : MethodName := ⟨RX10, "heatOf", "(I)J"⟩
abbrev cX10_billedOf : ByteArray := prog_12_method_8_code
def yX10_billedOf : MethodName := ⟨RX10, "billedOf", "(I)J"⟩
abbrev cX10_priceOf : ByteArray := prog_12_method_9_code
def yX10_priceOf : MethodName := ⟨RX10, "priceOf", "(II)J"⟩
abbrev cX10_copyFrom : ByteArray := prog_12_method_10_code
def yX10_copyFrom : MethodName := ⟨RX10, "copyFrom", "(LColdShips$World;)V"⟩
def RX11 : String := "ColdShips"
def TX11 : u_T := fun k => match k with
  | 0 => ("ColdShips", "world", "LColdShips$World;", true)
  | 1 => ("ColdShips", "images", "[LColdShips$World;", true)
  | 2 => ("ColdShips", "watch", "LColdShips$Watch;", true)
  | 3 => ("ColdShips", "reader", "LColdShips$Reader;", true)
  | 4 => ("ColdShips", "reckoner", "LColdShips$Reckoner;", true)
  | 5 => ("ColdShips", "planner", "LColdShips$Planner;", true)
  | _ => ("ColdShips", "refusal", "I", false)
def tyX11 : Nat → FieldType := fun k => match k with
  | 0 => .object "ColdShips$World"
  | 1 => .array (.object "ColdShips$World")
  | 2 => .object "ColdShips$Watch"
  | 3 => .object "ColdShips$Reader"
  | 4 => .object "ColdShips$Reckoner"
  | 5 => .object "ColdShips$Planner"
  | _ => .int
abbrev wsX110 : List Cond := u_ws RX11 TX11 7
theorem nmX11 : ∀ a, a < 7 → ∀ b, b < 7 → a ≠ b → (TX11 a).2.1 ≠ (TX11 b).2.1 := by decide +kernel
theorem tyX11_ok : ∀ k, k < 7 → parseFieldDescriptor (TX11 k).2.2.1 = some (tyX11 k) := by decide +kernel
abbrev cX11_ship : ByteArray := prog_1_method_3_code
def yX11_ship : MethodName := ⟨RX11, "ship", "(III)I"⟩
abbrev cX11_way : ByteArray := prog_1_method_4_code
def yX11_way : MethodName := ⟨RX11, "way", "(IIIZ)I"⟩
abbrev cX11_tide : ByteArray := prog_1_method_5_code
def yX11_tide : MethodName := ⟨RX11, "tide", "(II)I"⟩
abbrev cX11_sea : ByteArray := prog_1_method_6_code
def yX11_sea : MethodName := ⟨RX11, "sea", "(II)I"⟩
abbrev cX11_slot : ByteArray := prog_1_method_7_code
def yX11_slot : MethodName := ⟨RX11, "slot", "(IIII)I"⟩
abbrev cX11_broken : ByteArray := prog_1_method_8_code
def yX11_broken : MethodName := ⟨RX11, "broken", "(III)I"⟩
abbrev cX11_terms : ByteArray := prog_1_method_9_code
def yX11_terms : MethodName := ⟨RX11, "terms", "(II)I"⟩
abbrev cX11_order : ByteArray := prog_1_method_10_code
def yX11_order : MethodName := ⟨RX11, "order", "(III)I"⟩
abbrev cX11_of : ByteArray := prog_1_method_12_code
def yX11_of : MethodName := ⟨RX11, "of", "(II)I"⟩
abbrev cX11_part : ByteArray := prog_1_method_13_code
def yX11_part : MethodName := ⟨RX11, "part", "(II)I"⟩
abbrev cX11_book : ByteArray := prog_1_method_14_code
def yX11_book : MethodName := ⟨RX11, "book", "(II)J"⟩
abbrev cX11_store : ByteArray := prog_1_method_15_code
def yX11_store : MethodName := ⟨RX11, "store", "(I)I"⟩
abbrev cX11_landing : ByteArray := prog_1_method_16_code
def yX11_landing : MethodName := ⟨RX11, "landing", "(II)I"⟩
abbrev cX11_led : ByteArray := prog_1_method_17_code
def yX11_led : MethodName := ⟨RX11, "led", "(II)I"⟩
abbrev cX11_heat : ByteArray := prog_1_method_18_code
def yX11_heat : MethodName := ⟨RX11, "heat", "(II)I"⟩
abbrev cX11_bill : ByteArray := prog_1_method_21_code
def yX11_bill : MethodName := ⟨RX11, "bill", "(II)I"⟩
abbrev cX11_end : ByteArray := prog_1_method_23_code
def yX11_end : MethodName := ⟨RX11, "end", "(I)I"⟩
abbrev cX11_fault : ByteArray := prog_1_method_25_code
def yX11_fault : MethodName := ⟨RX11, "fault", "()I"⟩
abbrev cX11_due : ByteArray := prog_1_method_26_code
def yX11_due : MethodName := ⟨RX11, "due", "(IIII)J"⟩
abbrev cX11_settle : ByteArray := prog_1_method_27_code
def yX11_settle : MethodName := ⟨RX11, "settle", "(II)I"⟩
abbrev cX11_settled : ByteArray := prog_1_method_28_code
def yX11_settled : MethodName := ⟨RX11, "settled", "(II)J"⟩
abbrev cX11_table : ByteArray := prog_1_method_29_code
def yX11_table : MethodName := ⟨RX11, "table", "(IIII)I"⟩
abbrev cX11_list : ByteArray := prog_1_method_30_code
def yX11_list : MethodName := ⟨RX11, "list", "(II)I"⟩
abbrev cX11_reading : ByteArray := prog_1_method_31_code
def yX11_reading : MethodName := ⟨RX11, "reading", "(IIIII)I"⟩
abbrev cX11_gauged : ByteArray := prog_1_method_32_code
def yX11_gauged : MethodName := ⟨RX11, "gauged", "(III)J"⟩
abbrev cX11_cargo : ByteArray := prog_1_method_33_code
def yX11_cargo : MethodName := ⟨RX11, "cargo", "(IIIIIIII)I"⟩
abbrev cX11_clear : ByteArray := prog_1_method_34_code
def yX11_clear : MethodName := ⟨RX11, "clear", "()I"⟩
abbrev cX11_voyage : ByteArray := prog_1_method_36_code
def yX11_voyage : MethodName := ⟨RX11, "voyage", "(II)J"⟩
abbrev cX11_judge : ByteArray := prog_1_method_37_code
def yX11_judge : MethodName := ⟨RX11, "judge", "(IIIII)J"⟩
abbrev cX11_back : ByteArray := prog_1_method_39_code
def yX11_back : MethodName := ⟨RX11, "back", "(I)I"⟩
abbrev cX11_count : ByteArray := prog_1_method_40_code
def yX11_count : MethodName := ⟨RX11, "count", "(I)I"⟩
abbrev cX11_status : ByteArray := prog_1_method_41_code
def yX11_status : MethodName := ⟨RX11, "status", "()I"⟩
abbrev cX11_refuse : ByteArray := prog_1_method_42_code
def yX11_refuse : MethodName := ⟨RX11, "refuse", "(I)I"⟩
abbrev cX11_accept : ByteArray := prog_1_method_43_code
def yX11_accept : MethodName := ⟨RX11, "accept", "(I)I"⟩
abbrev cX11_acceptOrFull : ByteArray := prog_1_method_44_code
def yX11_acceptOrFull : MethodName := ⟨RX11, "acceptOrFull", "(I)I"⟩
abbrev cX11_within : ByteArray := prog_1_method_45_code
def yX11_within : MethodName := ⟨RX11, "within", "(III)Z"⟩
abbrev cX11_isHour : ByteArray := prog_1_method_46_code
def yX11_isHour : MethodName := ⟨RX11, "isHour", "(I)Z"⟩
abbrev cX11_isSpan : ByteArray := prog_1_method_47_code
def yX11_isSpan : MethodName := ⟨RX11, "isSpan", "(II)Z"⟩
abbrev cX11_isOrder : ByteArray := prog_1_method_48_code
def yX11_isOrder : MethodName := ⟨RX11, "isOrder", "(II)Z"⟩
abbrev cX11_slotOwner : ByteArray := prog_1_method_49_code
def yX11_slotOwner : MethodName := ⟨RX11, "slotOwner", "(II)I"⟩
def RX12 : String := "ColdShipsModel"
def TX12 : u_T := fun k => match k with
  | 0 => ("ColdShipsModel", "thrown", "I", false)
  | 1 => ("ColdShipsModel", "status", "I", false)
  | 2 => ("ColdShipsModel", "row", "[I", true)
  | 3 => ("ColdShipsModel", "images", "[I", true)
  | 4 => ("ColdShipsModel", "isKept", "[Z", true)
  | 5 => ("ColdShipsModel", "moved", "[I", true)
  | 6 => ("ColdShipsModel", "rests", "[J", true)
  | 7 => ("ColdShipsModel", "isTurnTaken", "Z", false)
  | 8 => ("ColdShipsModel", "tape", "[I", true)
  | 9 => ("ColdShipsModel", "taped", "I", false)
  | 10 => ("ColdShipsModel", "from", "I", false)
  | 11 => ("ColdShipsModel", "to", "I", false)
  | 12 => ("ColdShipsModel", "sort", "I", false)
  | 13 => ("ColdShipsModel", "worth", "J", false)
  | 14 => ("ColdShipsModel", "fault", "I", false)
  | 15 => ("ColdShipsModel", "bad", "Z", false)
  | 16 => ("ColdShipsModel", "nFrom", "I", false)
  | 17 => ("ColdShipsModel", "nTo", "I", false)
  | 18 => ("ColdShipsModel", "nAt", "I", false)
  | 19 => ("ColdShipsModel", "nClauses", "I", false)
  | 20 => ("ColdShipsModel", "nPays", "I", false)
  | 21 => ("ColdShipsModel", "nClause", "[I", true)
  | 22 => ("ColdShipsModel", "nCode", "I", false)
  | 23 => ("ColdShipsModel", "nOp", "[I", true)
  | 24 => ("ColdShipsModel", "nArg", "[I", true)
  | 25 => ("ColdShipsModel", "nLeaves", "I", false)
  | 26 => ("ColdShipsModel", "pile", "[I", true)
  | 27 => ("ColdShipsModel", "pileAt", "[I", true)
  | 28 => ("ColdShipsModel", "piled", "I", false)
  | 29 => ("ColdShipsModel", "opened", "I", false)
  | 30 => ("ColdShipsModel", "set", "[J", true)
  | 31 => ("ColdShipsModel", "rest", "[J", true)
  | 32 => ("ColdShipsModel", "broken", "Z", false)
  | 33 => ("ColdShipsModel", "value", "J", false)
  | 34 => ("ColdShipsModel", "pays", "J", false)
  | 35 => ("ColdShipsModel", "fines", "J", false)
  | 36 => ("ColdShipsModel", "clock", "I", false)
  | 37 => ("ColdShipsModel", "place", "I", false)
  | 38 => ("ColdShipsModel", "began", "I", false)
  | 39 => ("ColdShipsModel", "loads", "[I", true)
  | 40 => ("ColdShipsModel", "lands", "[I", true)
  | 41 => ("ColdShipsModel", "worths", "[J", true)
  | 42 => ("ColdShipsModel", "line", "[I", true)
  | 43 => ("ColdShipsModel", "bestOf", "[J", true)
  | 44 => ("ColdShipsModel", "placesOf", "[I", true)
  | 45 => ("ColdShipsModel", "members", "[I", true)
  | 46 => ("ColdShipsModel", "places", "[I", true)
  | 47 => ("ColdShipsModel", "hasBest", "Z", false)
  | 48 => ("ColdShipsModel", "bestCargoes", "I", false)
  | 49 => ("ColdShipsModel", "bestShip", "[I", true)
  | 50 => ("ColdShipsModel", "bestTold", "[J", true)
  | 51 => ("ColdShipsModel", "chosen", "[I", true)
  | _ => ("ColdShipsModel", "sets", "[I", true)
def tyX12 : Nat → FieldType := fun k => match k with
  | 0 => .int
  | 1 => .int
  | 2 => .array .int
  | 3 => .array .int
  | 4 => .array .boolean
  | 5 => .array .int
  | 6 => .array .long
  | 7 => .boolean
  | 8 => .array .int
  | 9 => .int
  | 10 => .int
  | 11 => .int
  | 12 => .int
  | 13 => .long
  | 14 => .int
  | 15 => .boolean
  | 16 => .int
  | 17 => .int
  | 18 => .int
  | 19 => .int
  | 20 => .int
  | 21 => .array .int
  | 22 => .int
  | 23 => .array .int
  | 24 => .array .int
  | 25 => .int
  | 26 => .array .int
  | 27 => .array .int
  | 28 => .int
  | 29 => .int
  | 30 => .array .long
  | 31 => .array .long
  | 32 => .boolean
  | 33 => .long
  | 34 => .long
  | 35 => .long
  | 36 => .int
  | 37 => .int
  | 38 => .int
  | 39 => .array .int
  | 40 => .array .int
  | 41 => .array .long
  | 42 => .array .int
  | 43 => .array .long
  | 44 => .array .int
  | 45 => .array .int
  | 46 => .array .int
  | 47 => .boolean
  | 48 => .int
  | 49 => .array .int
  | 50 => .array .long
  | 51 => .array .int
  | _ => .array .int
abbrev wsX120 : List Cond := u_ws RX12 TX12 53
theorem nmX12 : ∀ a, a < 53 → ∀ b, b < 53 → a ≠ b → (TX12 a).2.1 ≠ (TX12 b).2.1 := by decide +kernel
theorem tyX12_ok : ∀ k, k < 53 → parseFieldDescriptor (TX12 k).2.2.1 = some (tyX12 k) := by decide +kernel
abbrev cX12_in : ByteArray := prog_14_method_3_code
def yX12_in : MethodName := ⟨RX12, "in", "(JJJ)Z"⟩
abbrev cX12_told : ByteArray := prog_14_method_4_code
def yX12_told : MethodName := ⟨RX12, "told", "(I)I"⟩
abbrev cX12_isHour : ByteArray := prog_14_method_5_code
def yX12_isHour : MethodName := ⟨RX12, "isHour", "(I)Z"⟩
abbrev cX12_isDay : ByteArray := prog_14_method_6_code
def yX12_isDay : MethodName := ⟨RX12, "isDay", "(I)Z"⟩
abbrev cX12_addFour : ByteArray := prog_14_method_7_code
def yX12_addFour : MethodName := ⟨RX12, "addFour", "(IIIII)V"⟩
abbrev cX12_back : ByteArray := prog_14_method_9_code
def yX12_back : MethodName := ⟨RX12, "back", "(I)I"⟩
abbrev cX12_isTerminal : ByteArray := prog_14_method_10_code
def yX12_isTerminal : MethodName := ⟨RX12, "isTerminal", "(I)Z"⟩
abbrev cX12_isShip : ByteArray := prog_14_method_11_code
def yX12_isShip : MethodName := ⟨RX12, "isShip", "(I)Z"⟩
abbrev cX12_shipAt : ByteArray := prog_14_method_12_code
def yX12_shipAt : MethodName := ⟨RX12, "shipAt", "(I)I"⟩
abbrev cX12_terminalAt : ByteArray := prog_14_method_13_code
def yX12_terminalAt : MethodName := ⟨RX12, "terminalAt", "(I)I"⟩
abbrev cX12_terminal : ByteArray := prog_14_method_14_code
def yX12_terminal : MethodName := ⟨RX12, "terminal", "(IIII)I"⟩
abbrev cX12_ship : ByteArray := prog_14_method_15_code
def yX12_ship : MethodName := ⟨RX12, "ship", "(III)I"⟩
abbrev cX12_way : ByteArray := prog_14_method_16_code
def yX12_way : MethodName := ⟨RX12, "way", "(IIIZ)I"⟩
abbrev cX12_wayOf : ByteArray := prog_14_method_17_code
def yX12_wayOf : MethodName := ⟨RX12, "wayOf", "(II)I"⟩
abbrev cX12_tide : ByteArray := prog_14_method_18_code
def yX12_tide : MethodName := ⟨RX12, "tide", "(II)I"⟩
abbrev cX12_sea : ByteArray := prog_14_method_19_code
def yX12_sea : MethodName := ⟨RX12, "sea", "(II)I"⟩
abbrev cX12_slot : ByteArray := prog_14_method_20_code
def yX12_slot : MethodName := ⟨RX12, "slot", "(IIII)I"⟩
abbrev cX12_broken : ByteArray := prog_14_method_21_code
def yX12_broken : MethodName := ⟨RX12, "broken", "(III)I"⟩
abbrev cX12_isBroken : ByteArray := prog_14_method_22_code
def yX12_isBroken : MethodName := ⟨RX12, "isBroken", "(II)Z"⟩
abbrev cX12_terms : ByteArray := prog_14_method_23_code
def yX12_terms : MethodName := ⟨RX12, "terms", "(II)I"⟩
abbrev cX12_order : ByteArray := prog_14_method_24_code
def yX12_order : MethodName := ⟨RX12, "order", "(III)I"⟩
abbrev cX12_beginOrder : ByteArray := prog_14_method_25_code
def yX12_beginOrder : MethodName := ⟨RX12, "beginOrder", "(I)V"⟩
abbrev cX12_topOf : ByteArray := prog_14_method_28_code
def yX12_topOf : MethodName := ⟨RX12, "topOf", "(I)I"⟩
abbrev cX12_draftOf : ByteArray := prog_14_method_29_code
def yX12_draftOf : MethodName := ⟨RX12, "draftOf", "(I)I"⟩
abbrev cX12_roomOf : ByteArray := prog_14_method_30_code
def yX12_roomOf : MethodName := ⟨RX12, "roomOf", "(I)I"⟩
abbrev cX12_pressOf : ByteArray := prog_14_method_31_code
def yX12_pressOf : MethodName := ⟨RX12, "pressOf", "(I)I"⟩
abbrev cX12_of : ByteArray := prog_14_method_45_code
def yX12_of : MethodName := ⟨RX12, "of", "(II)I"⟩
abbrev cX12_part : ByteArray := prog_14_method_46_code
def yX12_part : MethodName := ⟨RX12, "part", "(II)I"⟩
abbrev cX12_book : ByteArray := prog_14_method_47_code
def yX12_book : MethodName := ⟨RX12, "book", "(II)J"⟩
abbrev cX12_store : ByteArray := prog_14_method_48_code
def yX12_store : MethodName := ⟨RX12, "store", "(I)I"⟩
abbrev cX12_isLanding : ByteArray := prog_14_method_49_code
def yX12_isLanding : MethodName := ⟨RX12, "isLanding", "(I)Z"⟩
abbrev cX12_landingAt : ByteArray := prog_14_method_50_code
def yX12_landingAt : MethodName := ⟨RX12, "landingAt", "(I)I"⟩
abbrev cX12_heatOf : ByteArray := prog_14_method_51_code
def yX12_heatOf : MethodName := ⟨RX12, "heatOf", "(I)I"⟩
abbrev cX12_landing : ByteArray := prog_14_method_52_code
def yX12_landing : MethodName := ⟨RX12, "landing", "(II)I"⟩
abbrev cX12_led : ByteArray := prog_14_method_53_code
def yX12_led : MethodName := ⟨RX12, "led", "(II)I"⟩
abbrev cX12_heat : ByteArray := prog_14_method_54_code
def yX12_heat : MethodName := ⟨RX12, "heat", "(II)I"⟩
abbrev cX12_price : ByteArray := prog_14_method_55_code
def yX12_price : MethodName := ⟨RX12, "price", "(III)I"⟩
abbrev cX12_priceOf : ByteArray := prog_14_method_56_code
def yX12_priceOf : MethodName := ⟨RX12, "priceOf", "(II)I"⟩
abbrev cX12_force : ByteArray := prog_14_method_57_code
def yX12_force : MethodName := ⟨RX12, "force", "(III)I"⟩
abbrev cX12_isForce : ByteArray := prog_14_method_58_code
def yX12_isForce : MethodName := ⟨RX12, "isForce", "(II)Z"⟩
abbrev cX12_bill : ByteArray := prog_14_method_59_code
def yX12_bill : MethodName := ⟨RX12, "bill", "(II)I"⟩
abbrev cX12_billed : ByteArray := prog_14_method_60_code
def yX12_billed : MethodName := ⟨RX12, "billed", "(I)I"⟩
abbrev cX12_end : ByteArray := prog_14_method_63_code
def yX12_end : MethodName := ⟨RX12, "end", "(I)I"⟩
abbrev cX12_fault : ByteArray := prog_14_method_72_code
def yX12_fault : MethodName := ⟨RX12, "fault", "()I"⟩
abbrev cX12_isContract : ByteArray := prog_14_method_88_code
def yX12_isContract : MethodName := ⟨RX12, "isContract", "(I)Z"⟩
abbrev cX12_setFor : ByteArray := prog_14_method_89_code
def yX12_setFor : MethodName := ⟨RX12, "setFor", "(III)V"⟩
abbrev cX12_size : ByteArray := prog_14_method_90_code
def yX12_size : MethodName := ⟨RX12, "size", "(J)J"⟩
abbrev cX12_reckon : ByteArray := prog_14_method_91_code
def yX12_reckon : MethodName := ⟨RX12, "reckon", "(IJJ)J"⟩
abbrev cX12_run : ByteArray := prog_14_method_92_code
def yX12_run : MethodName := ⟨RX12, "run", "(III)V"⟩
abbrev cX12_judgeLanding : ByteArray := prog_14_method_93_code
def yX12_judgeLanding : MethodName := ⟨RX12, "judgeLanding", "(II)V"⟩
abbrev cX12_contractAt : ByteArray := prog_14_method_94_code
def yX12_contractAt : MethodName := ⟨RX12, "contractAt", "(I)I"⟩
abbrev cX12_due : ByteArray := prog_14_method_95_code
def yX12_due : MethodName := ⟨RX12, "due", "(IIII)J"⟩
abbrev cX12_settle : ByteArray := prog_14_method_96_code
def yX12_settle : MethodName := ⟨RX12, "settle", "(II)I"⟩
abbrev cX12_settled : ByteArray := prog_14_method_97_code
def yX12_settled : MethodName := ⟨RX12, "settled", "(II)J"⟩
abbrev cX12_table : ByteArray := prog_14_method_98_code
def yX12_table : MethodName := ⟨RX12, "table", "(IIII)I"⟩
abbrev cX12_list : ByteArray := prog_14_method_99_code
def yX12_list : MethodName := ⟨RX12, "list", "(II)I"⟩
abbrev cX12_reading : ByteArray := prog_14_method_100_code
def yX12_reading : MethodName := ⟨RX12, "reading", "(IIIII)I"⟩
abbrev cX12_hasTable : ByteArray := prog_14_method_101_code
def yX12_hasTable : MethodName := ⟨RX12, "hasTable", "(I)Z"⟩
abbrev cX12_tonsBy : ByteArray := prog_14_method_102_code
def yX12_tonsBy : MethodName := ⟨RX12, "tonsBy", "(II)J"⟩
abbrev cX12_gaugedBy : ByteArray := prog_14_method_103_code
def yX12_gaugedBy : MethodName := ⟨RX12, "gaugedBy", "(III)J"⟩
abbrev cX12_gauged : ByteArray := prog_14_method_104_code
def yX12_gauged : MethodName := ⟨RX12, "gauged", "(III)J"⟩
abbrev cX12_cargo : ByteArray := prog_14_method_105_code
def yX12_cargo : MethodName := ⟨RX12, "cargo", "(IIIIIIII)I"⟩
abbrev cX12_clear : ByteArray := prog_14_method_106_code
def yX12_clear : MethodName := ⟨RX12, "clear", "()I"⟩
abbrev cX12_work : ByteArray := prog_14_method_107_code
def yX12_work : MethodName := ⟨RX12, "work", "(II)Z"⟩
abbrev cX12_goTo : ByteArray := prog_14_method_108_code
def yX12_goTo : MethodName := ⟨RX12, "goTo", "(IIII)I"⟩
abbrev cX12_carry : ByteArray := prog_14_method_109_code
def yX12_carry : MethodName := ⟨RX12, "carry", "(II)Z"⟩
abbrev cX12_sailRow : ByteArray := prog_14_method_110_code
def yX12_sailRow : MethodName := ⟨RX12, "sailRow", "(III)J"⟩
abbrev cX12_judge : ByteArray := prog_14_method_111_code
def yX12_judge : MethodName := ⟨RX12, "judge", "(IIIII)J"⟩
abbrev cX12_voyage : ByteArray := prog_14_method_118_code
def yX12_voyage : MethodName := ⟨RX12, "voyage", "(II)J"⟩
abbrev cX12_count : ByteArray := prog_14_method_119_code
def yX12_count : MethodName := ⟨RX12, "count", "(I)I"⟩
abbrev cX12_status : ByteArray := prog_14_method_120_code
def yX12_status : MethodName := ⟨RX12, "status", "()I"⟩
def RJ7 : String := "java/util/Arrays"
abbrev cJ7_rangeCheck_23922 : ByteArray := prog_22_method_30_code
def yJ7_rangeCheck_23922 : MethodName := ⟨RJ7, "rangeCheck", "(III)V"⟩
abbrev cJ7_fill_d0a16 : ByteArray := prog_22_method_101_code
def yJ7_fill_d0a16 : MethodName := ⟨RJ7, "fill", "([JJ)V"⟩
abbrev cJ7_fill_bad5a : ByteArray := prog_22_method_102_code
def yJ7_fill_bad5a : MethodName := ⟨RJ7, "fill", "([JIIJ)V"⟩
abbrev cJ7_fill_53178 : ByteArray := prog_22_method_103_code
def yJ7_fill_53178 : MethodName := ⟨RJ7, "fill", "([II)V"⟩
def wsX10_hasShip : List Cond := .code yX10_hasShip cX10_hasShip 2 (some .boolean) :: ([.fieldLink RX10 81 "ColdShips$World" "shipCount" "I"] ++ wsX100)
def wsX1_sails : List Cond := .code yX1_sails cX1_sails 2 (some .boolean) :: ([.fieldLink RX1 40 "ColdShips$Planner" "world" "LColdShips$World;", .methodLink RX1 44 yX10_hasShip, .instanceMethod yX10_hasShip, .selects RX10 yX10_hasShip yX10_hasShip, .initialized RX10, .code yX10_hasShip cX10_hasShip 2 (some .boolean), .fieldLink RX10 81 "ColdShips$World" "shipCount" "I"] ++ wsX10 ++ wsX100)
def wsX10_hasTerminal : List Cond := .code yX10_hasTerminal cX10_hasTerminal 2 (some .boolean) :: ([.fieldLink RX10 78 "ColdShips$World" "terminalCount" "I"] ++ wsX100)
def wsX4_has : List Cond := .code yX4_has cX4_has 2 (some .boolean) :: ([.fieldLink RX4 25 "ColdShips$Rows" "size" "I"] ++ wsX40)
def wsX11_within : List Cond := .code yX11_within cX11_within 3 (some .boolean) :: ([])
def wsX11_isHour : List Cond := .code yX11_isHour cX11_isHour 1 (some .boolean) :: ([.methodLink RX11 51 yX11_within, .static yX11_within, .initialized RX11, .code yX11_within cX11_within 3 (some .boolean)])
def wsX11_refuse : List Cond := .code yX11_refuse cX11_refuse 2 (some .int) :: ([.fieldLink RX11 354 "ColdShips" "refusal" "I"] ++ wsX110)
def wsX11_accept : List Cond := .code yX11_accept cX11_accept 2 (some .int) :: ([.fieldLink RX11 354 "ColdShips" "refusal" "I"] ++ wsX110)
def wsX11_ship_r1 : List Cond := [Cond.constant RX11 76 (200000), Cond.fieldLink RX11 10 "ColdShips" "world" "LColdShips$World;", Cond.methodLink RX11 51 yX11_within, Cond.static yX11_within, Cond.initialized RX11, Cond.code yX11_within cX11_within 3 (some .boolean), Cond.methodLink RX11 55 yX11_refuse, Cond.instanceMethod yX11_refuse, Cond.selects RX11 yX11_refuse yX11_refuse, Cond.code yX11_refuse cX11_refuse 2 (some .int), Cond.fieldLink RX11 354 "ColdShips" "refusal" "I", Cond.methodLink RX11 77 yX10_hasTerminal, Cond.instanceMethod yX10_hasTerminal, Cond.selects RX10 yX10_hasTerminal yX10_hasTerminal, Cond.initialized RX10, Cond.code yX10_hasTerminal cX10_hasTerminal 2 (some .boolean), Cond.fieldLink RX10 78 "ColdShips$World" "terminalCount" "I", Cond.methodLink RX11 88 yX5_begin, Cond.instanceMethod yX5_begin, Cond.selects RX5 yX5_begin yX5_begin, Cond.initialized RX5, Cond.code yX5_begin cX5_begin 4 none, Cond.fieldLink RX5 12 "ColdShips$Ship" "tank" "LColdShips$Tank;", Cond.fieldLink RX5 42 "ColdShips$Ship" "fuel" "I"]
def wsX11_ship_r2 : List Cond := [Cond.fieldLink RX5 46 "ColdShips$Ship" "where" "I", Cond.fieldLink RX5 49 "ColdShips$Ship" "left" "I", Cond.fieldLink RX5 52 "ColdShips$Ship" "half" "I", Cond.fieldLink RX5 55 "ColdShips$Ship" "drifting" "Z", Cond.fieldLink RX5 59 "ColdShips$Ship" "orders" "I", Cond.fieldLink RX5 62 "ColdShips$Ship" "list" "I", Cond.fieldLink RX5 25 "ColdShips$Ship" "book" "[J", Cond.fieldLink RX5 32 "ColdShips$Ship" "gaugeCentimetres" "[I", Cond.methodLink RX5 38 yX7_begin, Cond.instanceMethod yX7_begin, Cond.selects RX7 yX7_begin yX7_begin, Cond.initialized RX7, Cond.code yX7_begin cX7_begin 2 none, Cond.methodLink RX7 26 Lib.Math.max.name, Cond.static Lib.Math.max.name, Cond.initialized "java/lang/Math", Cond.code Lib.Math.max.name Lib.Math.max.code 2 (some .int), Cond.fieldLink RX7 9 "ColdShips$Tank" "cap" "I", Cond.fieldLink RX7 32 "ColdShips$Tank" "gas" "I", Cond.fieldLink RX7 35 "ColdShips$Tank" "vapor" "I", Cond.fieldLink RX7 38 "ColdShips$Tank" "warm" "I", Cond.fieldLink RX7 15 "ColdShips$Tank" "parts" "[I", Cond.methodLink RX7 41 yJ7_fill_53178, Cond.static yJ7_fill_53178]
def wsX11_ship_r3 : List Cond := [Cond.initialized RJ7, Cond.code yJ7_fill_53178 cJ7_fill_53178 4 none, Cond.methodLink RX5 65 yJ7_fill_d0a16, Cond.static yJ7_fill_d0a16, Cond.code yJ7_fill_d0a16 cJ7_fill_d0a16 5 none, Cond.methodLink RX5 71 yJ7_fill_53178, Cond.methodLink RX5 74 yX5_forgetLanding, Cond.instanceMethod yX5_forgetLanding, Cond.selects RX5 yX5_forgetLanding yX5_forgetLanding, Cond.code yX5_forgetLanding cX5_forgetLanding 1 none, Cond.fieldLink RX5 93 "ColdShips$Ship" "landTons" "I", Cond.fieldLink RX5 29 "ColdShips$Ship" "landParts" "[I", Cond.methodLink RX11 73 yX11_accept, Cond.instanceMethod yX11_accept, Cond.selects RX11 yX11_accept yX11_accept, Cond.code yX11_accept cX11_accept 2 (some .int)]
def wsX11_ship : List Cond := .code yX11_ship cX11_ship 5 (some .int) :: ((wsX11_ship_r1 ++ (wsX11_ship_r2 ++ wsX11_ship_r3)) ++ wsX110 ++ wsX100 ++ wsX50 ++ wsX70)
def wsX11_way_r1 : List Cond := [Cond.fieldLink RX11 10 "ColdShips" "world" "LColdShips$World;", Cond.methodLink RX11 51 yX11_within, Cond.static yX11_within, Cond.initialized RX11, Cond.code yX11_within cX11_within 3 (some .boolean), Cond.methodLink RX11 55 yX11_refuse, Cond.instanceMethod yX11_refuse, Cond.selects RX11 yX11_refuse yX11_refuse, Cond.code yX11_refuse cX11_refuse 2 (some .int), Cond.fieldLink RX11 354 "ColdShips" "refusal" "I", Cond.methodLink RX11 77 yX10_hasTerminal, Cond.instanceMethod yX10_hasTerminal, Cond.selects RX10 yX10_hasTerminal yX10_hasTerminal, Cond.initialized RX10, Cond.code yX10_hasTerminal cX10_hasTerminal 2 (some .boolean), Cond.fieldLink RX10 78 "ColdShips$World" "terminalCount" "I", Cond.methodLink RX11 93 yX8_tellWay, Cond.instanceMethod yX8_tellWay, Cond.selects RX8 yX8_tellWay yX8_tellWay, Cond.initialized RX8, Cond.code yX8_tellWay cX8_tellWay 4 none, Cond.fieldLink RX8 15 "ColdShips$Terminal" "wayHours" "[I", Cond.fieldLink RX8 19 "ColdShips$Terminal" "wayHalf" "[I", Cond.methodLink RX11 73 yX11_accept]
def wsX11_way_r2 : List Cond := [Cond.instanceMethod yX11_accept, Cond.selects RX11 yX11_accept yX11_accept, Cond.code yX11_accept cX11_accept 2 (some .int)]
def wsX11_way : List Cond := .code yX11_way cX11_way 5 (some .int) :: ((wsX11_way_r1 ++ wsX11_way_r2) ++ wsX110 ++ wsX100 ++ wsX80)
def wsX11_tide : List Cond := .code yX11_tide cX11_tide 3 (some .int) :: ([.fieldLink RX11 10 "ColdShips" "world" "LColdShips$World;", .methodLink RX11 51 yX11_within, .static yX11_within, .initialized RX11, .code yX11_within cX11_within 3 (some .boolean), .methodLink RX11 55 yX11_refuse, .instanceMethod yX11_refuse, .selects RX11 yX11_refuse yX11_refuse, .code yX11_refuse cX11_refuse 2 (some .int), .fieldLink RX11 354 "ColdShips" "refusal" "I", .methodLink RX11 73 yX11_accept, .instanceMethod yX11_accept, .selects RX11 yX11_accept yX11_accept, .code yX11_accept cX11_accept 2 (some .int)] ++ wsX110 ++ wsX100)
def wsX11_sea : List Cond := .code yX11_sea cX11_sea 3 (some .int) :: ([.fieldLink RX11 10 "ColdShips" "world" "LColdShips$World;", .methodLink RX11 51 yX11_within, .static yX11_within, .initialized RX11, .code yX11_within cX11_within 3 (some .boolean), .methodLink RX11 55 yX11_refuse, .instanceMethod yX11_refuse, .selects RX11 yX11_refuse yX11_refuse, .code yX11_refuse cX11_refuse 2 (some .int), .fieldLink RX11 354 "ColdShips" "refusal" "I", .methodLink RX11 73 yX11_accept, .instanceMethod yX11_accept, .selects RX11 yX11_accept yX11_accept, .code yX11_accept cX11_accept 2 (some .int)] ++ wsX110 ++ wsX100)
def wsX11_isSpan : List Cond := .code yX11_isSpan cX11_isSpan 2 (some .boolean) :: ([.methodLink RX11 229 yX11_isHour, .static yX11_isHour, .initialized RX11, .code yX11_isHour cX11_isHour 1 (some .boolean), .methodLink RX11 51 yX11_within, .static yX11_within, .code yX11_within cX11_within 3 (some .boolean)])
def wsX11_slot_r1 : List Cond := [Cond.fieldLink RX11 10 "ColdShips" "world" "LColdShips$World;", Cond.methodLink RX11 104 yX11_isSpan, Cond.static yX11_isSpan, Cond.initialized RX11, Cond.code yX11_isSpan cX11_isSpan 2 (some .boolean), Cond.methodLink RX11 229 yX11_isHour, Cond.static yX11_isHour, Cond.code yX11_isHour cX11_isHour 1 (some .boolean), Cond.methodLink RX11 51 yX11_within, Cond.static yX11_within, Cond.code yX11_within cX11_within 3 (some .boolean), Cond.methodLink RX11 55 yX11_refuse, Cond.instanceMethod yX11_refuse, Cond.selects RX11 yX11_refuse yX11_refuse, Cond.code yX11_refuse cX11_refuse 2 (some .int), Cond.fieldLink RX11 354 "ColdShips" "refusal" "I", Cond.methodLink RX11 77 yX10_hasTerminal, Cond.instanceMethod yX10_hasTerminal, Cond.selects RX10 yX10_hasTerminal yX10_hasTerminal, Cond.initialized RX10, Cond.code yX10_hasTerminal cX10_hasTerminal 2 (some .boolean), Cond.fieldLink RX10 78 "ColdShips$World" "terminalCount" "I", Cond.methodLink RX11 108 yX10_hasShip, Cond.instanceMethod yX10_hasShip]
def wsX11_slot_r2 : List Cond := [Cond.selects RX10 yX10_hasShip yX10_hasShip, Cond.code yX10_hasShip cX10_hasShip 2 (some .boolean), Cond.fieldLink RX10 81 "ColdShips$World" "shipCount" "I", Cond.methodLink RX11 115 yX11_slotOwner, Cond.static yX11_slotOwner, Cond.code yX11_slotOwner cX11_slotOwner 2 (some .int), Cond.methodLink RX11 119 yX6_meets, Cond.instanceMethod yX6_meets, Cond.selects RX6 yX6_meets yX6_meets, Cond.initialized RX6, Cond.code yX6_meets cX6_meets 6 (some .boolean), Cond.fieldLink RX6 27 "ColdShips$Spans" "size" "I", Cond.fieldLink RX6 21 "ColdShips$Spans" "begins" "[I", Cond.fieldLink RX6 15 "ColdShips$Spans" "owners" "[I", Cond.fieldLink RX6 24 "ColdShips$Spans" "ends" "[I", Cond.methodLink RX11 125 yX6_add, Cond.instanceMethod yX6_add, Cond.selects RX6 yX6_add yX6_add, Cond.code yX6_add cX6_add 5 (some .int), Cond.methodLink RX11 129 yX11_acceptOrFull, Cond.instanceMethod yX11_acceptOrFull, Cond.selects RX11 yX11_acceptOrFull yX11_acceptOrFull, Cond.code yX11_acceptOrFull cX11_acceptOrFull 2 (some .int), Cond.methodLink RX11 73 yX11_accept]
def wsX11_slot_r3 : List Cond := [Cond.instanceMethod yX11_accept, Cond.selects RX11 yX11_accept yX11_accept, Cond.code yX11_accept cX11_accept 2 (some .int)]
def wsX11_slot : List Cond := .code yX11_slot cX11_slot 5 (some .int) :: ((wsX11_slot_r1 ++ (wsX11_slot_r2 ++ wsX11_slot_r3)) ++ wsX110 ++ wsX100 ++ wsX60)
def wsX11_broken_r1 : List Cond := [Cond.fieldLink RX11 10 "ColdShips" "world" "LColdShips$World;", Cond.methodLink RX11 104 yX11_isSpan, Cond.static yX11_isSpan, Cond.initialized RX11, Cond.code yX11_isSpan cX11_isSpan 2 (some .boolean), Cond.methodLink RX11 229 yX11_isHour, Cond.static yX11_isHour, Cond.code yX11_isHour cX11_isHour 1 (some .boolean), Cond.methodLink RX11 51 yX11_within, Cond.static yX11_within, Cond.code yX11_within cX11_within 3 (some .boolean), Cond.methodLink RX11 55 yX11_refuse, Cond.instanceMethod yX11_refuse, Cond.selects RX11 yX11_refuse yX11_refuse, Cond.code yX11_refuse cX11_refuse 2 (some .int), Cond.fieldLink RX11 354 "ColdShips" "refusal" "I", Cond.methodLink RX11 77 yX10_hasTerminal, Cond.instanceMethod yX10_hasTerminal, Cond.selects RX10 yX10_hasTerminal yX10_hasTerminal, Cond.initialized RX10, Cond.code yX10_hasTerminal cX10_hasTerminal 2 (some .boolean), Cond.fieldLink RX10 78 "ColdShips$World" "terminalCount" "I", Cond.methodLink RX11 125 yX6_add, Cond.instanceMethod yX6_add]
def wsX11_broken_r2 : List Cond := [Cond.selects RX6 yX6_add yX6_add, Cond.initialized RX6, Cond.code yX6_add cX6_add 5 (some .int), Cond.fieldLink RX6 27 "ColdShips$Spans" "size" "I", Cond.fieldLink RX6 15 "ColdShips$Spans" "owners" "[I", Cond.fieldLink RX6 21 "ColdShips$Spans" "begins" "[I", Cond.fieldLink RX6 24 "ColdShips$Spans" "ends" "[I", Cond.methodLink RX11 129 yX11_acceptOrFull, Cond.instanceMethod yX11_acceptOrFull, Cond.selects RX11 yX11_acceptOrFull yX11_acceptOrFull, Cond.code yX11_acceptOrFull cX11_acceptOrFull 2 (some .int), Cond.methodLink RX11 73 yX11_accept, Cond.instanceMethod yX11_accept, Cond.selects RX11 yX11_accept yX11_accept, Cond.code yX11_accept cX11_accept 2 (some .int)]
def wsX11_broken : List Cond := .code yX11_broken cX11_broken 4 (some .int) :: ((wsX11_broken_r1 ++ wsX11_broken_r2) ++ wsX110 ++ wsX100 ++ wsX60)
def wsX11_terms : List Cond := .code yX11_terms cX11_terms 3 (some .int) :: ([.fieldLink RX11 10 "ColdShips" "world" "LColdShips$World;", .methodLink RX11 51 yX11_within, .static yX11_within, .initialized RX11, .code yX11_within cX11_within 3 (some .boolean), .methodLink RX11 55 yX11_refuse, .instanceMethod yX11_refuse, .selects RX11 yX11_refuse yX11_refuse, .code yX11_refuse cX11_refuse 2 (some .int), .fieldLink RX11 354 "ColdShips" "refusal" "I", .methodLink RX11 73 yX11_accept, .instanceMethod yX11_accept, .selects RX11 yX11_accept yX11_accept, .code yX11_accept cX11_accept 2 (some .int)] ++ wsX110 ++ wsX100)
def wsX11_isOrder : List Cond := .code yX11_isOrder cX11_isOrder 2 (some .boolean) :: ([.constant RX11 76 (200000), .methodLink RX11 51 yX11_within, .static yX11_within, .initialized RX11, .code yX11_within cX11_within 3 (some .boolean), .methodLink RX11 229 yX11_isHour, .static yX11_isHour, .code yX11_isHour cX11_isHour 1 (some .boolean)])
def wsX11_order_r1 : List Cond := [Cond.fieldLink RX11 10 "ColdShips" "world" "LColdShips$World;", Cond.methodLink RX11 141 yX11_isOrder, Cond.static yX11_isOrder, Cond.initialized RX11, Cond.code yX11_isOrder cX11_isOrder 2 (some .boolean), Cond.constant RX11 76 (200000), Cond.methodLink RX11 51 yX11_within, Cond.static yX11_within, Cond.code yX11_within cX11_within 3 (some .boolean), Cond.methodLink RX11 229 yX11_isHour, Cond.static yX11_isHour, Cond.code yX11_isHour cX11_isHour 1 (some .boolean), Cond.methodLink RX11 55 yX11_refuse, Cond.instanceMethod yX11_refuse, Cond.selects RX11 yX11_refuse yX11_refuse, Cond.code yX11_refuse cX11_refuse 2 (some .int), Cond.fieldLink RX11 354 "ColdShips" "refusal" "I", Cond.methodLink RX11 108 yX10_hasShip, Cond.instanceMethod yX10_hasShip, Cond.selects RX10 yX10_hasShip yX10_hasShip, Cond.initialized RX10, Cond.code yX10_hasShip cX10_hasShip 2 (some .boolean), Cond.fieldLink RX10 81 "ColdShips$World" "shipCount" "I", Cond.methodLink RX11 77 yX10_hasTerminal]
def wsX11_order_r2 : List Cond := [Cond.instanceMethod yX10_hasTerminal, Cond.selects RX10 yX10_hasTerminal yX10_hasTerminal, Cond.code yX10_hasTerminal cX10_hasTerminal 2 (some .boolean), Cond.fieldLink RX10 78 "ColdShips$World" "terminalCount" "I", Cond.methodLink RX11 150 yX5_addOrder, Cond.instanceMethod yX5_addOrder, Cond.selects RX5 yX5_addOrder yX5_addOrder, Cond.initialized RX5, Cond.code yX5_addOrder cX5_addOrder 3 none, Cond.fieldLink RX5 59 "ColdShips$Ship" "orders" "I", Cond.fieldLink RX5 18 "ColdShips$Ship" "orderSorts" "[I", Cond.fieldLink RX5 22 "ColdShips$Ship" "orderWhats" "[I", Cond.methodLink RX11 73 yX11_accept, Cond.instanceMethod yX11_accept, Cond.selects RX11 yX11_accept yX11_accept, Cond.code yX11_accept cX11_accept 2 (some .int)]
def wsX11_order : List Cond := .code yX11_order cX11_order 5 (some .int) :: ((wsX11_order_r1 ++ wsX11_order_r2) ++ wsX110 ++ wsX100 ++ wsX50)
def wsX11_of_r1 : List Cond := [Cond.fieldLink RX11 10 "ColdShips" "world" "LColdShips$World;", Cond.methodLink RX11 108 yX10_hasShip, Cond.instanceMethod yX10_hasShip, Cond.selects RX10 yX10_hasShip yX10_hasShip, Cond.initialized RX10, Cond.code yX10_hasShip cX10_hasShip 2 (some .boolean), Cond.fieldLink RX10 81 "ColdShips$World" "shipCount" "I", Cond.methodLink RX11 181 yX7_press, Cond.instanceMethod yX7_press, Cond.selects RX7 yX7_press yX7_press, Cond.initialized RX7, Cond.code yX7_press cX7_press 1 (some .int), Cond.fieldLink RX7 35 "ColdShips$Tank" "vapor" "I", Cond.constantLong RX7 47 (1000), Cond.methodLink RX7 49 yX7_space, Cond.instanceMethod yX7_space, Cond.selects RX7 yX7_space yX7_space, Cond.code yX7_space cX7_space 1 (some .int), Cond.fieldLink RX7 9 "ColdShips$Tank" "cap" "I", Cond.fieldLink RX7 32 "ColdShips$Tank" "gas" "I", Cond.methodLink RX7 26 Lib.Math.max.name, Cond.static Lib.Math.max.name, Cond.initialized "java/lang/Math", Cond.code Lib.Math.max.name Lib.Math.max.code 2 (some .int)]
def wsX11_of_r2 : List Cond := [Cond.methodLink RX11 185 yX5_tonsLeft, Cond.instanceMethod yX5_tonsLeft, Cond.selects RX5 yX5_tonsLeft yX5_tonsLeft, Cond.initialized RX5, Cond.code yX5_tonsLeft cX5_tonsLeft 2 (some .int), Cond.fieldLink RX5 59 "ColdShips$Ship" "orders" "I", Cond.fieldLink RX5 18 "ColdShips$Ship" "orderSorts" "[I", Cond.fieldLink RX5 22 "ColdShips$Ship" "orderWhats" "[I", Cond.methodLink RX11 188 yX7_draft, Cond.instanceMethod yX7_draft, Cond.selects RX7 yX7_draft yX7_draft, Cond.code yX7_draft cX7_draft 1 (some .int)]
def wsX11_of : List Cond := .code yX11_of cX11_of 4 (some .int) :: ((wsX11_of_r1 ++ wsX11_of_r2) ++ wsX110 ++ wsX100 ++ wsX50 ++ wsX70)
def wsX11_part : List Cond := .code yX11_part cX11_part 3 (some .int) :: ([.fieldLink RX11 10 "ColdShips" "world" "LColdShips$World;", .methodLink RX11 108 yX10_hasShip, .instanceMethod yX10_hasShip, .selects RX10 yX10_hasShip yX10_hasShip, .initialized RX10, .code yX10_hasShip cX10_hasShip 2 (some .boolean), .fieldLink RX10 81 "ColdShips$World" "shipCount" "I", .methodLink RX11 77 yX10_hasTerminal, .instanceMethod yX10_hasTerminal, .selects RX10 yX10_hasTerminal yX10_hasTerminal, .code yX10_hasTerminal cX10_hasTerminal 2 (some .boolean), .fieldLink RX10 78 "ColdShips$World" "terminalCount" "I"] ++ wsX110 ++ wsX100 ++ wsX50 ++ wsX70)
def wsX11_book : List Cond := .code yX11_book cX11_book 3 (some .long) :: ([.fieldLink RX11 10 "ColdShips" "world" "LColdShips$World;", .constantLong RX11 198 (-1), .methodLink RX11 108 yX10_hasShip, .instanceMethod yX10_hasShip, .selects RX10 yX10_hasShip yX10_hasShip, .initialized RX10, .code yX10_hasShip cX10_hasShip 2 (some .boolean), .fieldLink RX10 81 "ColdShips$World" "shipCount" "I", .methodLink RX11 51 yX11_within, .static yX11_within, .initialized RX11, .code yX11_within cX11_within 3 (some .boolean)] ++ wsX110 ++ wsX100 ++ wsX50)
def wsX11_store : List Cond := .code yX11_store cX11_store 2 (some .int) :: ([.fieldLink RX11 10 "ColdShips" "world" "LColdShips$World;", .methodLink RX11 77 yX10_hasTerminal, .instanceMethod yX10_hasTerminal, .selects RX10 yX10_hasTerminal yX10_hasTerminal, .initialized RX10, .code yX10_hasTerminal cX10_hasTerminal 2 (some .boolean), .fieldLink RX10 78 "ColdShips$World" "terminalCount" "I"] ++ wsX110 ++ wsX100 ++ wsX80)
def wsX11_landing_r1 : List Cond := [Cond.fieldLink RX11 10 "ColdShips" "world" "LColdShips$World;", Cond.methodLink RX11 211 yX4_has, Cond.instanceMethod yX4_has, Cond.selects RX4 yX4_has yX4_has, Cond.initialized RX4, Cond.code yX4_has cX4_has 2 (some .boolean), Cond.fieldLink RX4 25 "ColdShips$Rows" "size" "I", Cond.methodLink RX11 216 yX4_number, Cond.instanceMethod yX4_number, Cond.selects RX4 yX4_number yX4_number, Cond.code yX4_number cX4_number 3 (some .int), Cond.methodLink RX4 34 yX4_at, Cond.instanceMethod yX4_at, Cond.selects RX4 yX4_at yX4_at, Cond.code yX4_at cX4_at 4 (some .long), Cond.fieldLink RX4 15 "ColdShips$Rows" "width" "I", Cond.fieldLink RX4 21 "ColdShips$Rows" "cells" "[J", Cond.methodLink RX11 219 yX10_heatOf, Cond.instanceMethod yX10_heatOf, Cond.selects RX10 yX10_heatOf yX10_heatOf, Cond.initialized RX10, Cond.code yX10_heatOf cX10_heatOf 7 (some .long), Cond.fieldLink RX10 70 "ColdShips$World" "landings" "LColdShips$Rows;", Cond.fieldLink RX10 27 "ColdShips$World" "terminals" "[LColdShips$Terminal;"]
def wsX11_landing_r2 : List Cond := [Cond.methodLink RX10 87 yX4_at, Cond.methodLink RX11 223 yX10_isSettled, Cond.instanceMethod yX10_isSettled, Cond.selects RX10 yX10_isSettled yX10_isSettled, Cond.code yX10_isSettled cX10_isSettled 2 (some .boolean), Cond.constantLong RX10 91 (-1)]
def wsX11_landing : List Cond := .code yX11_landing cX11_landing 3 (some .int) :: ((wsX11_landing_r1 ++ wsX11_landing_r2) ++ wsX110 ++ wsX100 ++ wsX40 ++ wsX80)
def wsX11_led : List Cond := .code yX11_led cX11_led 3 (some .int) :: ([.fieldLink RX11 10 "ColdShips" "world" "LColdShips$World;", .methodLink RX11 211 yX4_has, .instanceMethod yX4_has, .selects RX4 yX4_has yX4_has, .initialized RX4, .code yX4_has cX4_has 2 (some .boolean), .fieldLink RX4 25 "ColdShips$Rows" "size" "I", .methodLink RX11 77 yX10_hasTerminal, .instanceMethod yX10_hasTerminal, .selects RX10 yX10_hasTerminal yX10_hasTerminal, .initialized RX10, .code yX10_hasTerminal cX10_hasTerminal 2 (some .boolean), .fieldLink RX10 78 "ColdShips$World" "terminalCount" "I", .methodLink RX11 216 yX4_number, .instanceMethod yX4_number, .selects RX4 yX4_number yX4_number, .code yX4_number cX4_number 3 (some .int), .methodLink RX4 34 yX4_at, .instanceMethod yX4_at, .selects RX4 yX4_at yX4_at, .code yX4_at cX4_at 4 (some .long), .fieldLink RX4 15 "ColdShips$Rows" "width" "I", .fieldLink RX4 21 "ColdShips$Rows" "cells" "[J"] ++ wsX110 ++ wsX100 ++ wsX40)
def wsX11_heat : List Cond := .code yX11_heat cX11_heat 4 (some .int) :: ([.fieldLink RX11 10 "ColdShips" "world" "LColdShips$World;", .methodLink RX11 51 yX11_within, .static yX11_within, .initialized RX11, .code yX11_within cX11_within 3 (some .boolean), .methodLink RX11 55 yX11_refuse, .instanceMethod yX11_refuse, .selects RX11 yX11_refuse yX11_refuse, .code yX11_refuse cX11_refuse 2 (some .int), .fieldLink RX11 354 "ColdShips" "refusal" "I", .methodLink RX11 77 yX10_hasTerminal, .instanceMethod yX10_hasTerminal, .selects RX10 yX10_hasTerminal yX10_hasTerminal, .initialized RX10, .code yX10_hasTerminal cX10_hasTerminal 2 (some .boolean), .fieldLink RX10 78 "ColdShips$World" "terminalCount" "I", .methodLink RX11 73 yX11_accept, .instanceMethod yX11_accept, .selects RX11 yX11_accept yX11_accept, .code yX11_accept cX11_accept 2 (some .int)] ++ wsX110 ++ wsX100 ++ wsX80)
def wsX11_bill_r1 : List Cond := [Cond.constant RX11 76 (200000), Cond.fieldLink RX11 10 "ColdShips" "world" "LColdShips$World;", Cond.constantLong RX11 198 (-1), Cond.methodLink RX11 51 yX11_within, Cond.static yX11_within, Cond.initialized RX11, Cond.code yX11_within cX11_within 3 (some .boolean), Cond.methodLink RX11 55 yX11_refuse, Cond.instanceMethod yX11_refuse, Cond.selects RX11 yX11_refuse yX11_refuse, Cond.code yX11_refuse cX11_refuse 2 (some .int), Cond.fieldLink RX11 354 "ColdShips" "refusal" "I", Cond.methodLink RX11 211 yX4_has, Cond.instanceMethod yX4_has, Cond.selects RX4 yX4_has yX4_has, Cond.initialized RX4, Cond.code yX4_has cX4_has 2 (some .boolean), Cond.fieldLink RX4 25 "ColdShips$Rows" "size" "I", Cond.methodLink RX11 248 yX4_at, Cond.instanceMethod yX4_at, Cond.selects RX4 yX4_at yX4_at, Cond.code yX4_at cX4_at 4 (some .long), Cond.fieldLink RX4 15 "ColdShips$Rows" "width" "I", Cond.fieldLink RX4 21 "ColdShips$Rows" "cells" "[J"]
def wsX11_bill_r2 : List Cond := [Cond.methodLink RX11 238 yX4_set, Cond.instanceMethod yX4_set, Cond.selects RX4 yX4_set yX4_set, Cond.code yX4_set cX4_set 5 none, Cond.methodLink RX4 38 yX4_has, Cond.methodLink RX11 73 yX11_accept, Cond.instanceMethod yX11_accept, Cond.selects RX11 yX11_accept yX11_accept, Cond.code yX11_accept cX11_accept 2 (some .int)]
def wsX11_bill : List Cond := .code yX11_bill cX11_bill 3 (some .int) :: ((wsX11_bill_r1 ++ wsX11_bill_r2) ++ wsX110 ++ wsX100 ++ wsX40)
def wsX11_end : List Cond := .code yX11_end cX11_end 2 (some .int) :: ([.fieldLink RX11 32 "ColdShips" "reader" "LColdShips$Reader;", .methodLink RX11 51 yX11_within, .static yX11_within, .initialized RX11, .code yX11_within cX11_within 3 (some .boolean)] ++ wsX110 ++ wsX20)
def wsX11_fault : List Cond := .code yX11_fault cX11_fault 1 (some .int) :: ([.fieldLink RX11 32 "ColdShips" "reader" "LColdShips$Reader;"] ++ wsX110 ++ wsX20)
def wsX11_due_r1 : List Cond := [Cond.fieldLink RX11 10 "ColdShips" "world" "LColdShips$World;", Cond.constantLong RX11 281 (-2000000000000000), Cond.fieldLink RX11 39 "ColdShips" "reckoner" "LColdShips$Reckoner;", Cond.methodLink RX11 211 yX4_has, Cond.instanceMethod yX4_has, Cond.selects RX4 yX4_has yX4_has, Cond.initialized RX4, Cond.code yX4_has cX4_has 2 (some .boolean), Cond.fieldLink RX4 25 "ColdShips$Rows" "size" "I", Cond.methodLink RX11 278 yX10_hasContract, Cond.instanceMethod yX10_hasContract, Cond.selects RX10 yX10_hasContract yX10_hasContract, Cond.initialized RX10, Cond.code yX10_hasContract cX10_hasContract 2 (some .boolean), Cond.fieldLink RX10 84 "ColdShips$World" "contractCount" "I", Cond.fieldLink RX10 39 "ColdShips$World" "contracts" "[LColdShips$Contract;", Cond.methodLink RX11 229 yX11_isHour, Cond.static yX11_isHour, Cond.initialized RX11, Cond.code yX11_isHour cX11_isHour 1 (some .boolean), Cond.methodLink RX11 51 yX11_within, Cond.static yX11_within, Cond.code yX11_within cX11_within 3 (some .boolean), Cond.methodLink RX11 283 yX3_reckon]
def wsX11_due_r2 : List Cond := [Cond.instanceMethod yX3_reckon, Cond.selects RX3 yX3_reckon yX3_reckon, Cond.initialized RX3, Cond.code yX3_reckon cX3_reckon 5 none, Cond.fieldLink RX3 22 "ColdShips$Reckoner" "pays" "J", Cond.fieldLink RX3 26 "ColdShips$Reckoner" "fines" "J", Cond.methodLink RX3 29 yX3_findFacts, Cond.instanceMethod yX3_findFacts, Cond.selects RX3 yX3_findFacts yX3_findFacts, Cond.code yX3_findFacts cX3_findFacts 7 none, Cond.fieldLink RX3 18 "ColdShips$Reckoner" "world" "LColdShips$World;", Cond.fieldLink RX3 9 "ColdShips$Reckoner" "facts" "[J", Cond.methodLink RX3 89 Lib.Math.max.name, Cond.static Lib.Math.max.name, Cond.initialized "java/lang/Math", Cond.code Lib.Math.max.name Lib.Math.max.code 2 (some .int), Cond.methodLink RX3 52 yX4_number, Cond.instanceMethod yX4_number, Cond.selects RX4 yX4_number yX4_number, Cond.code yX4_number cX4_number 3 (some .int), Cond.methodLink RX4 34 yX4_at, Cond.instanceMethod yX4_at, Cond.selects RX4 yX4_at yX4_at, Cond.code yX4_at cX4_at 4 (some .long)]
def wsX11_due_r3 : List Cond := [Cond.fieldLink RX4 15 "ColdShips$Rows" "width" "I", Cond.fieldLink RX4 21 "ColdShips$Rows" "cells" "[J", Cond.methodLink RX3 62 yX4_at, Cond.methodLink RX3 66 yX10_billedOf, Cond.instanceMethod yX10_billedOf, Cond.selects RX10 yX10_billedOf yX10_billedOf, Cond.code yX10_billedOf cX10_billedOf 4 (some .long), Cond.fieldLink RX10 70 "ColdShips$World" "landings" "LColdShips$Rows;", Cond.constantLong RX10 91 (-1), Cond.methodLink RX10 87 yX4_at, Cond.methodLink RX3 70 yX10_heatOf, Cond.instanceMethod yX10_heatOf, Cond.selects RX10 yX10_heatOf yX10_heatOf, Cond.code yX10_heatOf cX10_heatOf 7 (some .long), Cond.fieldLink RX10 27 "ColdShips$World" "terminals" "[LColdShips$Terminal;", Cond.methodLink RX3 80 yX6_freeHours, Cond.instanceMethod yX6_freeHours, Cond.selects RX6 yX6_freeHours yX6_freeHours, Cond.initialized RX6, Cond.code yX6_freeHours cX6_freeHours 9 (some .int), Cond.methodLink RX6 9 Lib.Math.max.name, Cond.fieldLink RX6 27 "ColdShips$Spans" "size" "I", Cond.fieldLink RX6 21 "ColdShips$Spans" "begins" "[I", Cond.fieldLink RX6 15 "ColdShips$Spans" "owners" "[I"]
def wsX11_due_r4 : List Cond := [Cond.fieldLink RX6 24 "ColdShips$Spans" "ends" "[I", Cond.methodLink RX6 31 Lib.Math.min.name, Cond.static Lib.Math.min.name, Cond.code Lib.Math.min.name Lib.Math.min.code 2 (some .int), Cond.methodLink RX3 94 yX10_priceOf, Cond.instanceMethod yX10_priceOf, Cond.selects RX10 yX10_priceOf yX10_priceOf, Cond.code yX10_priceOf cX10_priceOf 12 (some .long), Cond.constantLong RX10 103 (24), Cond.fieldLink RX10 63 "ColdShips$World" "prices" "LColdShips$Rows;", Cond.methodLink RX3 42 yX3_runClause, Cond.instanceMethod yX3_runClause, Cond.selects RX3 yX3_runClause yX3_runClause, Cond.code yX3_runClause cX3_runClause 9 none, Cond.fieldLink RX3 97 "ColdShips$Reckoner" "depth" "I", Cond.methodLink RX3 100 Lib.Math.min.name, Cond.methodLink RX3 103 yX3_push, Cond.instanceMethod yX3_push, Cond.selects RX3 yX3_push yX3_push, Cond.code yX3_push cX3_push 3 none, Cond.fieldLink RX3 15 "ColdShips$Reckoner" "stack" "[J", Cond.methodLink RX3 107 yX3_pop, Cond.instanceMethod yX3_pop, Cond.selects RX3 yX3_pop yX3_pop]
def wsX11_due_r5 : List Cond := [Cond.code yX3_pop cX3_pop 1 (some .long), Cond.methodLink RX3 111 yX3_combine, Cond.instanceMethod yX3_combine, Cond.selects RX3 yX3_combine yX3_combine, Cond.code yX3_combine cX3_combine 6 (some .boolean), Cond.methodLink RX3 119 Lib.MathLoose.abs_long.x, Cond.static Lib.MathLoose.abs_long.x, Cond.code Lib.MathLoose.abs_long.x Lib.MathLoose.abs_long.code 2 (some .long), Cond.constantLong RX3 123 (1000000000000), Cond.methodLink RX3 115 yX3_pushSum, Cond.instanceMethod yX3_pushSum, Cond.selects RX3 yX3_pushSum yX3_pushSum, Cond.code yX3_pushSum cX3_pushSum 3 (some .boolean)]
def wsX11_due : List Cond := .code yX11_due cX11_due 5 (some .long) :: ((wsX11_due_r1 ++ (wsX11_due_r2 ++ (wsX11_due_r3 ++ (wsX11_due_r4 ++ wsX11_due_r5)))) ++ wsX110 ++ wsX100 ++ wsX30 ++ wsX40 ++ wsX00 ++ wsX80 ++ wsX60)
def wsX11_settle_r1 : List Cond := [Cond.fieldLink RX11 10 "ColdShips" "world" "LColdShips$World;", Cond.fieldLink RX11 39 "ColdShips" "reckoner" "LColdShips$Reckoner;", Cond.methodLink RX11 211 yX4_has, Cond.instanceMethod yX4_has, Cond.selects RX4 yX4_has yX4_has, Cond.initialized RX4, Cond.code yX4_has cX4_has 2 (some .boolean), Cond.fieldLink RX4 25 "ColdShips$Rows" "size" "I", Cond.methodLink RX11 278 yX10_hasContract, Cond.instanceMethod yX10_hasContract, Cond.selects RX10 yX10_hasContract yX10_hasContract, Cond.initialized RX10, Cond.code yX10_hasContract cX10_hasContract 2 (some .boolean), Cond.fieldLink RX10 84 "ColdShips$World" "contractCount" "I", Cond.fieldLink RX10 39 "ColdShips$World" "contracts" "[LColdShips$Contract;", Cond.methodLink RX11 55 yX11_refuse, Cond.instanceMethod yX11_refuse, Cond.selects RX11 yX11_refuse yX11_refuse, Cond.initialized RX11, Cond.code yX11_refuse cX11_refuse 2 (some .int), Cond.fieldLink RX11 354 "ColdShips" "refusal" "I", Cond.methodLink RX11 223 yX10_isSettled, Cond.instanceMethod yX10_isSettled, Cond.selects RX10 yX10_isSettled yX10_isSettled]
def wsX11_settle_r2 : List Cond := [Cond.code yX10_isSettled cX10_isSettled 2 (some .boolean), Cond.fieldLink RX10 70 "ColdShips$World" "landings" "LColdShips$Rows;", Cond.constantLong RX10 91 (-1), Cond.methodLink RX10 87 yX4_at, Cond.instanceMethod yX4_at, Cond.selects RX4 yX4_at yX4_at, Cond.code yX4_at cX4_at 4 (some .long), Cond.fieldLink RX4 15 "ColdShips$Rows" "width" "I", Cond.fieldLink RX4 21 "ColdShips$Rows" "cells" "[J", Cond.methodLink RX11 283 yX3_reckon, Cond.instanceMethod yX3_reckon, Cond.selects RX3 yX3_reckon yX3_reckon, Cond.initialized RX3, Cond.code yX3_reckon cX3_reckon 5 none, Cond.fieldLink RX3 22 "ColdShips$Reckoner" "pays" "J", Cond.fieldLink RX3 26 "ColdShips$Reckoner" "fines" "J", Cond.methodLink RX3 29 yX3_findFacts, Cond.instanceMethod yX3_findFacts, Cond.selects RX3 yX3_findFacts yX3_findFacts, Cond.code yX3_findFacts cX3_findFacts 7 none, Cond.fieldLink RX3 18 "ColdShips$Reckoner" "world" "LColdShips$World;", Cond.fieldLink RX3 9 "ColdShips$Reckoner" "facts" "[J", Cond.methodLink RX3 89 Lib.Math.max.name, Cond.static Lib.Math.max.name]
def wsX11_settle_r3 : List Cond := [Cond.initialized "java/lang/Math", Cond.code Lib.Math.max.name Lib.Math.max.code 2 (some .int), Cond.methodLink RX3 52 yX4_number, Cond.instanceMethod yX4_number, Cond.selects RX4 yX4_number yX4_number, Cond.code yX4_number cX4_number 3 (some .int), Cond.methodLink RX4 34 yX4_at, Cond.methodLink RX3 62 yX4_at, Cond.methodLink RX3 66 yX10_billedOf, Cond.instanceMethod yX10_billedOf, Cond.selects RX10 yX10_billedOf yX10_billedOf, Cond.code yX10_billedOf cX10_billedOf 4 (some .long), Cond.methodLink RX3 70 yX10_heatOf, Cond.instanceMethod yX10_heatOf, Cond.selects RX10 yX10_heatOf yX10_heatOf, Cond.code yX10_heatOf cX10_heatOf 7 (some .long), Cond.fieldLink RX10 27 "ColdShips$World" "terminals" "[LColdShips$Terminal;", Cond.methodLink RX3 80 yX6_freeHours, Cond.instanceMethod yX6_freeHours, Cond.selects RX6 yX6_freeHours yX6_freeHours, Cond.initialized RX6, Cond.code yX6_freeHours cX6_freeHours 9 (some .int), Cond.methodLink RX6 9 Lib.Math.max.name, Cond.fieldLink RX6 27 "ColdShips$Spans" "size" "I"]
def wsX11_settle_r4 : List Cond := [Cond.fieldLink RX6 21 "ColdShips$Spans" "begins" "[I", Cond.fieldLink RX6 15 "ColdShips$Spans" "owners" "[I", Cond.fieldLink RX6 24 "ColdShips$Spans" "ends" "[I", Cond.methodLink RX6 31 Lib.Math.min.name, Cond.static Lib.Math.min.name, Cond.code Lib.Math.min.name Lib.Math.min.code 2 (some .int), Cond.methodLink RX3 94 yX10_priceOf, Cond.instanceMethod yX10_priceOf, Cond.selects RX10 yX10_priceOf yX10_priceOf, Cond.code yX10_priceOf cX10_priceOf 12 (some .long), Cond.constantLong RX10 103 (24), Cond.fieldLink RX10 63 "ColdShips$World" "prices" "LColdShips$Rows;", Cond.methodLink RX3 42 yX3_runClause, Cond.instanceMethod yX3_runClause, Cond.selects RX3 yX3_runClause yX3_runClause, Cond.code yX3_runClause cX3_runClause 9 none, Cond.fieldLink RX3 97 "ColdShips$Reckoner" "depth" "I", Cond.methodLink RX3 100 Lib.Math.min.name, Cond.methodLink RX3 103 yX3_push, Cond.instanceMethod yX3_push, Cond.selects RX3 yX3_push yX3_push, Cond.code yX3_push cX3_push 3 none, Cond.fieldLink RX3 15 "ColdShips$Reckoner" "stack" "[J", Cond.methodLink RX3 107 yX3_pop]
def wsX11_settle_r5 : List Cond := [Cond.instanceMethod yX3_pop, Cond.selects RX3 yX3_pop yX3_pop, Cond.code yX3_pop cX3_pop 1 (some .long), Cond.methodLink RX3 111 yX3_combine, Cond.instanceMethod yX3_combine, Cond.selects RX3 yX3_combine yX3_combine, Cond.code yX3_combine cX3_combine 6 (some .boolean), Cond.methodLink RX3 119 Lib.MathLoose.abs_long.x, Cond.static Lib.MathLoose.abs_long.x, Cond.code Lib.MathLoose.abs_long.x Lib.MathLoose.abs_long.code 2 (some .long), Cond.constantLong RX3 123 (1000000000000), Cond.methodLink RX3 115 yX3_pushSum, Cond.instanceMethod yX3_pushSum, Cond.selects RX3 yX3_pushSum yX3_pushSum, Cond.code yX3_pushSum cX3_pushSum 3 (some .boolean), Cond.methodLink RX11 238 yX4_set, Cond.instanceMethod yX4_set, Cond.selects RX4 yX4_set yX4_set, Cond.code yX4_set cX4_set 5 none, Cond.methodLink RX4 38 yX4_has, Cond.methodLink RX11 73 yX11_accept, Cond.instanceMethod yX11_accept, Cond.selects RX11 yX11_accept yX11_accept, Cond.code yX11_accept cX11_accept 2 (some .int)]
def wsX11_settle : List Cond := .code yX11_settle cX11_settle 3 (some .int) :: ((wsX11_settle_r1 ++ (wsX11_settle_r2 ++ (wsX11_settle_r3 ++ (wsX11_settle_r4 ++ wsX11_settle_r5)))) ++ wsX110 ++ wsX100 ++ wsX30 ++ wsX40 ++ wsX00 ++ wsX80 ++ wsX60)
def wsX11_settled : List Cond := .code yX11_settled cX11_settled 3 (some .long) :: ([.fieldLink RX11 10 "ColdShips" "world" "LColdShips$World;", .constantLong RX11 281 (-2000000000000000), .methodLink RX11 211 yX4_has, .instanceMethod yX4_has, .selects RX4 yX4_has yX4_has, .initialized RX4, .code yX4_has cX4_has 2 (some .boolean), .fieldLink RX4 25 "ColdShips$Rows" "size" "I", .methodLink RX11 223 yX10_isSettled, .instanceMethod yX10_isSettled, .selects RX10 yX10_isSettled yX10_isSettled, .initialized RX10, .code yX10_isSettled cX10_isSettled 2 (some .boolean), .fieldLink RX10 70 "ColdShips$World" "landings" "LColdShips$Rows;", .constantLong RX10 91 (-1), .methodLink RX10 87 yX4_at, .instanceMethod yX4_at, .selects RX4 yX4_at yX4_at, .code yX4_at cX4_at 4 (some .long), .fieldLink RX4 15 "ColdShips$Rows" "width" "I", .fieldLink RX4 21 "ColdShips$Rows" "cells" "[J", .methodLink RX11 248 yX4_at] ++ wsX110 ++ wsX100 ++ wsX40)
def wsX11_table : List Cond := .code yX11_table cX11_table 5 (some .int) :: ([.constant RX11 76 (200000), .fieldLink RX11 10 "ColdShips" "world" "LColdShips$World;", .methodLink RX11 51 yX11_within, .static yX11_within, .initialized RX11, .code yX11_within cX11_within 3 (some .boolean), .methodLink RX11 55 yX11_refuse, .instanceMethod yX11_refuse, .selects RX11 yX11_refuse yX11_refuse, .code yX11_refuse cX11_refuse 2 (some .int), .fieldLink RX11 354 "ColdShips" "refusal" "I", .methodLink RX11 108 yX10_hasShip, .instanceMethod yX10_hasShip, .selects RX10 yX10_hasShip yX10_hasShip, .initialized RX10, .code yX10_hasShip cX10_hasShip 2 (some .boolean), .fieldLink RX10 81 "ColdShips$World" "shipCount" "I", .methodLink RX11 73 yX11_accept, .instanceMethod yX11_accept, .selects RX11 yX11_accept yX11_accept, .code yX11_accept cX11_accept 2 (some .int)] ++ wsX110 ++ wsX100 ++ wsX50)
def wsX11_list : List Cond := .code yX11_list cX11_list 4 (some .int) :: ([.fieldLink RX11 10 "ColdShips" "world" "LColdShips$World;", .methodLink RX11 51 yX11_within, .static yX11_within, .initialized RX11, .code yX11_within cX11_within 3 (some .boolean), .methodLink RX11 55 yX11_refuse, .instanceMethod yX11_refuse, .selects RX11 yX11_refuse yX11_refuse, .code yX11_refuse cX11_refuse 2 (some .int), .fieldLink RX11 354 "ColdShips" "refusal" "I", .methodLink RX11 108 yX10_hasShip, .instanceMethod yX10_hasShip, .selects RX10 yX10_hasShip yX10_hasShip, .initialized RX10, .code yX10_hasShip cX10_hasShip 2 (some .boolean), .fieldLink RX10 81 "ColdShips$World" "shipCount" "I", .methodLink RX11 73 yX11_accept, .instanceMethod yX11_accept, .selects RX11 yX11_accept yX11_accept, .code yX11_accept cX11_accept 2 (some .int)] ++ wsX110 ++ wsX100 ++ wsX50)
def wsX11_reading_r1 : List Cond := [Cond.fieldLink RX11 10 "ColdShips" "world" "LColdShips$World;", Cond.methodLink RX11 51 yX11_within, Cond.static yX11_within, Cond.initialized RX11, Cond.code yX11_within cX11_within 3 (some .boolean), Cond.methodLink RX11 229 yX11_isHour, Cond.static yX11_isHour, Cond.code yX11_isHour cX11_isHour 1 (some .boolean), Cond.methodLink RX11 55 yX11_refuse, Cond.instanceMethod yX11_refuse, Cond.selects RX11 yX11_refuse yX11_refuse, Cond.code yX11_refuse cX11_refuse 2 (some .int), Cond.fieldLink RX11 354 "ColdShips" "refusal" "I", Cond.methodLink RX11 211 yX4_has, Cond.instanceMethod yX4_has, Cond.selects RX4 yX4_has yX4_has, Cond.initialized RX4, Cond.code yX4_has cX4_has 2 (some .boolean), Cond.fieldLink RX4 25 "ColdShips$Rows" "size" "I", Cond.methodLink RX11 235 yX4_addRow, Cond.instanceMethod yX4_addRow, Cond.selects RX4 yX4_addRow yX4_addRow, Cond.code yX4_addRow cX4_addRow 2 (some .int), Cond.fieldLink RX4 15 "ColdShips$Rows" "width" "I"]
def wsX11_reading_r2 : List Cond := [Cond.fieldLink RX4 21 "ColdShips$Rows" "cells" "[J", Cond.methodLink RX4 28 yJ7_fill_bad5a, Cond.static yJ7_fill_bad5a, Cond.initialized RJ7, Cond.code yJ7_fill_bad5a cJ7_fill_bad5a 6 none, Cond.methodLink RJ7 13 yJ7_rangeCheck_23922, Cond.static yJ7_rangeCheck_23922, Cond.code yJ7_rangeCheck_23922 cJ7_rangeCheck_23922 3 none, Cond.methodLink RX11 238 yX4_set, Cond.instanceMethod yX4_set, Cond.selects RX4 yX4_set yX4_set, Cond.code yX4_set cX4_set 5 none, Cond.methodLink RX4 38 yX4_has, Cond.methodLink RX11 73 yX11_accept, Cond.instanceMethod yX11_accept, Cond.selects RX11 yX11_accept yX11_accept, Cond.code yX11_accept cX11_accept 2 (some .int)]
def wsX11_reading : List Cond := .code yX11_reading cX11_reading 7 (some .int) :: ((wsX11_reading_r1 ++ wsX11_reading_r2) ++ wsX110 ++ wsX100 ++ wsX40)
def wsX11_gauged_r1 : List Cond := [Cond.fieldLink RX11 10 "ColdShips" "world" "LColdShips$World;", Cond.constantLong RX11 281 (-2000000000000000), Cond.fieldLink RX11 39 "ColdShips" "reckoner" "LColdShips$Reckoner;", Cond.methodLink RX11 211 yX4_has, Cond.instanceMethod yX4_has, Cond.selects RX4 yX4_has yX4_has, Cond.initialized RX4, Cond.code yX4_has cX4_has 2 (some .boolean), Cond.fieldLink RX4 25 "ColdShips$Rows" "size" "I", Cond.methodLink RX11 229 yX11_isHour, Cond.static yX11_isHour, Cond.initialized RX11, Cond.code yX11_isHour cX11_isHour 1 (some .boolean), Cond.methodLink RX11 51 yX11_within, Cond.static yX11_within, Cond.code yX11_within cX11_within 3 (some .boolean), Cond.methodLink RX11 309 yX3_tonsRead, Cond.instanceMethod yX3_tonsRead, Cond.selects RX3 yX3_tonsRead yX3_tonsRead, Cond.initialized RX3, Cond.code yX3_tonsRead cX3_tonsRead 7 (some .long), Cond.fieldLink RX3 18 "ColdShips$Reckoner" "world" "LColdShips$World;", Cond.constantLong RX3 138 (-2000000000000000), Cond.methodLink RX3 52 yX4_number]
def wsX11_gauged_r2 : List Cond := [Cond.instanceMethod yX4_number, Cond.selects RX4 yX4_number yX4_number, Cond.code yX4_number cX4_number 3 (some .int), Cond.methodLink RX4 34 yX4_at, Cond.instanceMethod yX4_at, Cond.selects RX4 yX4_at yX4_at, Cond.code yX4_at cX4_at 4 (some .long), Cond.fieldLink RX4 15 "ColdShips$Rows" "width" "I", Cond.fieldLink RX4 21 "ColdShips$Rows" "cells" "[J", Cond.methodLink RX3 125 yX10_hasShip, Cond.instanceMethod yX10_hasShip, Cond.selects RX10 yX10_hasShip yX10_hasShip, Cond.initialized RX10, Cond.code yX10_hasShip cX10_hasShip 2 (some .boolean), Cond.fieldLink RX10 81 "ColdShips$World" "shipCount" "I", Cond.methodLink RX3 132 yX5_gaugeCounts, Cond.instanceMethod yX5_gaugeCounts, Cond.selects RX5 yX5_gaugeCounts yX5_gaugeCounts, Cond.initialized RX5, Cond.code yX5_gaugeCounts cX5_gaugeCounts 2 (some .boolean), Cond.fieldLink RX5 32 "ColdShips$Ship" "gaugeCentimetres" "[I", Cond.fieldLink RX5 35 "ColdShips$Ship" "gaugeTons" "[I", Cond.methodLink RX3 62 yX4_at, Cond.methodLink RX3 149 yX5_tonsAt]
def wsX11_gauged_r3 : List Cond := [Cond.instanceMethod yX5_tonsAt, Cond.selects RX5 yX5_tonsAt yX5_tonsAt, Cond.code yX5_tonsAt cX5_tonsAt 6 (some .long), Cond.methodLink RX11 313 yX3_tonsGauged, Cond.instanceMethod yX3_tonsGauged, Cond.selects RX3 yX3_tonsGauged yX3_tonsGauged, Cond.code yX3_tonsGauged cX3_tonsGauged 7 (some .long), Cond.methodLink RX3 152 yX3_tonsRead, Cond.methodLink RX11 316 yX3_claimOf, Cond.instanceMethod yX3_claimOf, Cond.selects RX3 yX3_claimOf yX3_claimOf, Cond.code yX3_claimOf cX3_claimOf 5 (some .long), Cond.methodLink RX3 156 yX3_tonsGauged, Cond.methodLink RX3 66 yX10_billedOf, Cond.instanceMethod yX10_billedOf, Cond.selects RX10 yX10_billedOf yX10_billedOf, Cond.code yX10_billedOf cX10_billedOf 4 (some .long), Cond.fieldLink RX10 70 "ColdShips$World" "landings" "LColdShips$Rows;", Cond.constantLong RX10 91 (-1), Cond.methodLink RX10 87 yX4_at, Cond.methodLink RX3 94 yX10_priceOf, Cond.instanceMethod yX10_priceOf, Cond.selects RX10 yX10_priceOf yX10_priceOf, Cond.code yX10_priceOf cX10_priceOf 12 (some .long)]
def wsX11_gauged_r4 : List Cond := [Cond.constantLong RX10 103 (24), Cond.fieldLink RX10 63 "ColdShips$World" "prices" "LColdShips$Rows;"]
def wsX11_gauged : List Cond := .code yX11_gauged cX11_gauged 4 (some .long) :: ((wsX11_gauged_r1 ++ (wsX11_gauged_r2 ++ (wsX11_gauged_r3 ++ wsX11_gauged_r4))) ++ wsX110 ++ wsX100 ++ wsX40 ++ wsX30 ++ wsX50)
def wsX11_cargo_r1 : List Cond := [Cond.constant RX11 76 (200000), Cond.fieldLink RX11 10 "ColdShips" "world" "LColdShips$World;", Cond.methodLink RX11 104 yX11_isSpan, Cond.static yX11_isSpan, Cond.initialized RX11, Cond.code yX11_isSpan cX11_isSpan 2 (some .boolean), Cond.methodLink RX11 229 yX11_isHour, Cond.static yX11_isHour, Cond.code yX11_isHour cX11_isHour 1 (some .boolean), Cond.methodLink RX11 51 yX11_within, Cond.static yX11_within, Cond.code yX11_within cX11_within 3 (some .boolean), Cond.methodLink RX11 55 yX11_refuse, Cond.instanceMethod yX11_refuse, Cond.selects RX11 yX11_refuse yX11_refuse, Cond.code yX11_refuse cX11_refuse 2 (some .int), Cond.fieldLink RX11 354 "ColdShips" "refusal" "I", Cond.methodLink RX11 77 yX10_hasTerminal, Cond.instanceMethod yX10_hasTerminal, Cond.selects RX10 yX10_hasTerminal yX10_hasTerminal, Cond.initialized RX10, Cond.code yX10_hasTerminal cX10_hasTerminal 2 (some .boolean), Cond.fieldLink RX10 78 "ColdShips$World" "terminalCount" "I", Cond.methodLink RX11 235 yX4_addRow]
def wsX11_cargo_r2 : List Cond := [Cond.instanceMethod yX4_addRow, Cond.selects RX4 yX4_addRow yX4_addRow, Cond.initialized RX4, Cond.code yX4_addRow cX4_addRow 2 (some .int), Cond.fieldLink RX4 25 "ColdShips$Rows" "size" "I", Cond.fieldLink RX4 15 "ColdShips$Rows" "width" "I", Cond.fieldLink RX4 21 "ColdShips$Rows" "cells" "[J", Cond.methodLink RX4 28 yJ7_fill_bad5a, Cond.static yJ7_fill_bad5a, Cond.initialized RJ7, Cond.code yJ7_fill_bad5a cJ7_fill_bad5a 6 none, Cond.methodLink RJ7 13 yJ7_rangeCheck_23922, Cond.static yJ7_rangeCheck_23922, Cond.code yJ7_rangeCheck_23922 cJ7_rangeCheck_23922 3 none, Cond.methodLink RX11 238 yX4_set, Cond.instanceMethod yX4_set, Cond.selects RX4 yX4_set yX4_set, Cond.code yX4_set cX4_set 5 none, Cond.methodLink RX4 38 yX4_has, Cond.instanceMethod yX4_has, Cond.selects RX4 yX4_has yX4_has, Cond.code yX4_has cX4_has 2 (some .boolean), Cond.methodLink RX11 73 yX11_accept, Cond.instanceMethod yX11_accept]
def wsX11_cargo_r3 : List Cond := [Cond.selects RX11 yX11_accept yX11_accept, Cond.code yX11_accept cX11_accept 2 (some .int)]
def wsX11_cargo : List Cond := .code yX11_cargo cX11_cargo 10 (some .int) :: ((wsX11_cargo_r1 ++ (wsX11_cargo_r2 ++ wsX11_cargo_r3)) ++ wsX110 ++ wsX100 ++ wsX40)
def wsX11_clear : List Cond := .code yX11_clear cX11_clear 2 (some .int) :: ([.fieldLink RX11 10 "ColdShips" "world" "LColdShips$World;"] ++ wsX110 ++ wsX100 ++ wsX40)
def wsX11_voyage : List Cond := .code yX11_voyage cX11_voyage 3 (some .long) :: ([.fieldLink RX11 46 "ColdShips" "planner" "LColdShips$Planner;", .constantLong RX11 281 (-2000000000000000), .methodLink RX11 51 yX11_within, .static yX11_within, .initialized RX11, .code yX11_within cX11_within 3 (some .boolean)] ++ wsX110 ++ wsX10)
def wsX11_judge_r1 : List Cond := [Cond.fieldLink RX11 46 "ColdShips" "planner" "LColdShips$Planner;", Cond.constantLong RX11 281 (-2000000000000000), Cond.methodLink RX11 343 yX1_sails, Cond.instanceMethod yX1_sails, Cond.selects RX1 yX1_sails yX1_sails, Cond.initialized RX1, Cond.code yX1_sails cX1_sails 2 (some .boolean), Cond.fieldLink RX1 40 "ColdShips$Planner" "world" "LColdShips$World;", Cond.methodLink RX1 44 yX10_hasShip, Cond.instanceMethod yX10_hasShip, Cond.selects RX10 yX10_hasShip yX10_hasShip, Cond.initialized RX10, Cond.code yX10_hasShip cX10_hasShip 2 (some .boolean), Cond.fieldLink RX10 81 "ColdShips$World" "shipCount" "I", Cond.methodLink RX11 229 yX11_isHour, Cond.static yX11_isHour, Cond.initialized RX11, Cond.code yX11_isHour cX11_isHour 1 (some .boolean), Cond.methodLink RX11 51 yX11_within, Cond.static yX11_within, Cond.code yX11_within cX11_within 3 (some .boolean), Cond.methodLink RX11 346 yX1_worthOfRow, Cond.instanceMethod yX1_worthOfRow, Cond.selects RX1 yX1_worthOfRow yX1_worthOfRow]
def wsX11_judge_r2 : List Cond := [Cond.code yX1_worthOfRow cX1_worthOfRow 13 (some .long), Cond.constantLong RX1 66 (-2000000000000000), Cond.fieldLink RX1 108 "ColdShips$Planner" "worth" "J", Cond.fieldLink RX1 119 "ColdShips$Planner" "freeAt" "I", Cond.methodLink RX1 148 yX4_has, Cond.instanceMethod yX4_has, Cond.selects RX4 yX4_has yX4_has, Cond.initialized RX4, Cond.code yX4_has cX4_has 2 (some .boolean), Cond.fieldLink RX4 25 "ColdShips$Rows" "size" "I", Cond.methodLink RX1 104 yX1_reckon, Cond.instanceMethod yX1_reckon, Cond.selects RX1 yX1_reckon yX1_reckon, Cond.code yX1_reckon cX1_reckon 14 (some .boolean), Cond.methodLink RX1 164 Lib.Math.max.name, Cond.static Lib.Math.max.name, Cond.initialized "java/lang/Math", Cond.code Lib.Math.max.name Lib.Math.max.code 2 (some .int), Cond.fieldLink RX1 142 "ColdShips$Planner" "loadAt" "I", Cond.fieldLink RX1 145 "ColdShips$Planner" "landAt" "I", Cond.constantLong RX1 189 (100000), Cond.methodLink RX1 191 Lib.MathLoose.min_long.x, Cond.static Lib.MathLoose.min_long.x, Cond.code Lib.MathLoose.min_long.x Lib.MathLoose.min_long.code 4 (some .long)]
def wsX11_judge_r3 : List Cond := [Cond.constantLong RX1 198 (100), Cond.methodLink RX1 116 yX4_number, Cond.instanceMethod yX4_number, Cond.selects RX4 yX4_number yX4_number, Cond.code yX4_number cX4_number 3 (some .int), Cond.methodLink RX4 34 yX4_at, Cond.instanceMethod yX4_at, Cond.selects RX4 yX4_at yX4_at, Cond.code yX4_at cX4_at 4 (some .long), Cond.fieldLink RX4 15 "ColdShips$Rows" "width" "I", Cond.fieldLink RX4 21 "ColdShips$Rows" "cells" "[J", Cond.methodLink RX1 151 yX10_hoursBetween, Cond.instanceMethod yX10_hoursBetween, Cond.selects RX10 yX10_hoursBetween yX10_hoursBetween, Cond.code yX10_hoursBetween cX10_hoursBetween 4 (some .int), Cond.fieldLink RX10 27 "ColdShips$World" "terminals" "[LColdShips$Terminal;", Cond.methodLink RX10 93 yX10_hasTerminal, Cond.instanceMethod yX10_hasTerminal, Cond.selects RX10 yX10_hasTerminal yX10_hasTerminal, Cond.code yX10_hasTerminal cX10_hasTerminal 2 (some .boolean), Cond.fieldLink RX10 78 "ColdShips$World" "terminalCount" "I", Cond.methodLink RX1 158 yX7_top, Cond.instanceMethod yX7_top, Cond.selects RX7 yX7_top yX7_top]
def wsX11_judge_r4 : List Cond := [Cond.initialized RX7, Cond.code yX7_top cX7_top 1 (some .int), Cond.fieldLink RX7 9 "ColdShips$Tank" "cap" "I", Cond.methodLink RX1 175 yX8_hoursFor, Cond.instanceMethod yX8_hoursFor, Cond.selects RX8 yX8_hoursFor yX8_hoursFor, Cond.initialized RX8, Cond.code yX8_hoursFor cX8_hoursFor 2 (some .int), Cond.fieldLink RX8 9 "ColdShips$Terminal" "rate" "I", Cond.methodLink RX1 180 yX6_hourBehind, Cond.instanceMethod yX6_hourBehind, Cond.selects RX6 yX6_hourBehind yX6_hourBehind, Cond.initialized RX6, Cond.code yX6_hourBehind cX6_hourBehind 8 (some .int), Cond.fieldLink RX6 27 "ColdShips$Spans" "size" "I", Cond.fieldLink RX6 21 "ColdShips$Spans" "begins" "[I", Cond.fieldLink RX6 15 "ColdShips$Spans" "owners" "[I", Cond.fieldLink RX6 24 "ColdShips$Spans" "ends" "[I", Cond.methodLink RX6 9 Lib.Math.max.name, Cond.methodLink RX1 194 yX4_at]
def wsX11_judge : List Cond := .code yX11_judge cX11_judge 6 (some .long) :: ((wsX11_judge_r1 ++ (wsX11_judge_r2 ++ (wsX11_judge_r3 ++ wsX11_judge_r4))) ++ wsX110 ++ wsX10 ++ wsX100 ++ wsX50 ++ wsX40 ++ wsX80 ++ wsX70 ++ wsX60)
def wsX11_back_r1 : List Cond := [Cond.fieldLink RX11 16 "ColdShips" "images" "[LColdShips$World;", Cond.fieldLink RX11 10 "ColdShips" "world" "LColdShips$World;", Cond.methodLink RX11 51 yX11_within, Cond.static yX11_within, Cond.initialized RX11, Cond.code yX11_within cX11_within 3 (some .boolean), Cond.methodLink RX11 55 yX11_refuse, Cond.instanceMethod yX11_refuse, Cond.selects RX11 yX11_refuse yX11_refuse, Cond.code yX11_refuse cX11_refuse 2 (some .int), Cond.fieldLink RX11 354 "ColdShips" "refusal" "I", Cond.methodLink RX11 350 yX10_copyFrom, Cond.instanceMethod yX10_copyFrom, Cond.selects RX10 yX10_copyFrom yX10_copyFrom, Cond.initialized RX10, Cond.code yX10_copyFrom cX10_copyFrom 3 none, Cond.fieldLink RX10 108 "ColdShips$World" "now" "I", Cond.fieldLink RX10 9 "ColdShips$World" "boils" "I", Cond.fieldLink RX10 15 "ColdShips$World" "limit" "I", Cond.fieldLink RX10 111 "ColdShips$World" "ordersGiven" "I", Cond.fieldLink RX10 78 "ColdShips$World" "terminalCount" "I", Cond.fieldLink RX10 81 "ColdShips$World" "shipCount" "I", Cond.fieldLink RX10 84 "ColdShips$World" "contractCount" "I", Cond.fieldLink RX10 18 "ColdShips$World" "tides" "[I"]
def wsX11_back_r2 : List Cond := [Cond.methodLink RX10 114 arraycopyName, Cond.native arraycopyName, Cond.static arraycopyName, Cond.initialized "java/lang/System", Cond.fieldLink RX10 22 "ColdShips$World" "seas" "[I", Cond.fieldLink RX10 39 "ColdShips$World" "contracts" "[LColdShips$Contract;", Cond.fieldLink RX10 27 "ColdShips$World" "terminals" "[LColdShips$Terminal;", Cond.fieldLink RX10 33 "ColdShips$World" "ships" "[LColdShips$Ship;", Cond.fieldLink RX10 48 "ColdShips$World" "slots" "LColdShips$Spans;", Cond.fieldLink RX10 52 "ColdShips$World" "breaks" "LColdShips$Spans;", Cond.fieldLink RX10 55 "ColdShips$World" "forces" "LColdShips$Spans;", Cond.fieldLink RX10 63 "ColdShips$World" "prices" "LColdShips$Rows;", Cond.fieldLink RX10 67 "ColdShips$World" "readings" "LColdShips$Rows;", Cond.fieldLink RX10 70 "ColdShips$World" "landings" "LColdShips$Rows;", Cond.fieldLink RX10 73 "ColdShips$World" "cargoes" "LColdShips$Rows;", Cond.methodLink RX10 120 yX8_copyFrom, Cond.instanceMethod yX8_copyFrom, Cond.selects RX8 yX8_copyFrom yX8_copyFrom, Cond.initialized RX8, Cond.code yX8_copyFrom cX8_copyFrom 2 none, Cond.fieldLink RX8 22 "ColdShips$Terminal" "store" "I", Cond.fieldLink RX8 25 "ColdShips$Terminal" "cap" "I", Cond.fieldLink RX8 9 "ColdShips$Terminal" "rate" "I", Cond.fieldLink RX8 34 "ColdShips$Terminal" "depth" "I"]
def wsX11_back_r3 : List Cond := [Cond.fieldLink RX8 37 "ColdShips$Terminal" "heat" "I", Cond.fieldLink RX8 15 "ColdShips$Terminal" "wayHours" "[I", Cond.methodLink RX8 50 arraycopyName, Cond.fieldLink RX8 19 "ColdShips$Terminal" "wayHalf" "[I", Cond.methodLink RX10 124 yX5_copyFrom, Cond.instanceMethod yX5_copyFrom, Cond.selects RX5 yX5_copyFrom yX5_copyFrom, Cond.initialized RX5, Cond.code yX5_copyFrom cX5_copyFrom 2 none, Cond.fieldLink RX5 12 "ColdShips$Ship" "tank" "LColdShips$Tank;", Cond.fieldLink RX5 42 "ColdShips$Ship" "fuel" "I", Cond.fieldLink RX5 46 "ColdShips$Ship" "where" "I", Cond.fieldLink RX5 49 "ColdShips$Ship" "left" "I", Cond.fieldLink RX5 52 "ColdShips$Ship" "half" "I", Cond.fieldLink RX5 55 "ColdShips$Ship" "drifting" "Z", Cond.fieldLink RX5 59 "ColdShips$Ship" "orders" "I", Cond.fieldLink RX5 62 "ColdShips$Ship" "list" "I", Cond.fieldLink RX5 96 "ColdShips$Ship" "landFirst" "I", Cond.fieldLink RX5 99 "ColdShips$Ship" "landLast" "I", Cond.fieldLink RX5 93 "ColdShips$Ship" "landTons" "I", Cond.fieldLink RX5 18 "ColdShips$Ship" "orderSorts" "[I", Cond.methodLink RX5 77 arraycopyName, Cond.fieldLink RX5 22 "ColdShips$Ship" "orderWhats" "[I", Cond.fieldLink RX5 25 "ColdShips$Ship" "book" "[J"]
def wsX11_back_r4 : List Cond := [Cond.fieldLink RX5 29 "ColdShips$Ship" "landParts" "[I", Cond.fieldLink RX5 32 "ColdShips$Ship" "gaugeCentimetres" "[I", Cond.fieldLink RX5 35 "ColdShips$Ship" "gaugeTons" "[I", Cond.methodLink RX5 102 yX7_copyFrom, Cond.instanceMethod yX7_copyFrom, Cond.selects RX7 yX7_copyFrom yX7_copyFrom, Cond.initialized RX7, Cond.code yX7_copyFrom cX7_copyFrom 2 none, Cond.fieldLink RX7 9 "ColdShips$Tank" "cap" "I", Cond.fieldLink RX7 32 "ColdShips$Tank" "gas" "I", Cond.fieldLink RX7 35 "ColdShips$Tank" "vapor" "I", Cond.fieldLink RX7 38 "ColdShips$Tank" "warm" "I", Cond.fieldLink RX7 15 "ColdShips$Tank" "parts" "[I", Cond.methodLink RX7 74 arraycopyName, Cond.methodLink RX10 127 yX6_copyFrom, Cond.instanceMethod yX6_copyFrom, Cond.selects RX6 yX6_copyFrom yX6_copyFrom, Cond.initialized RX6, Cond.code yX6_copyFrom cX6_copyFrom 2 none, Cond.fieldLink RX6 27 "ColdShips$Spans" "size" "I", Cond.fieldLink RX6 15 "ColdShips$Spans" "owners" "[I", Cond.methodLink RX6 34 arraycopyName, Cond.fieldLink RX6 21 "ColdShips$Spans" "begins" "[I", Cond.fieldLink RX6 24 "ColdShips$Spans" "ends" "[I"]
def wsX11_back_r5 : List Cond := [Cond.methodLink RX10 130 yX4_copyFrom, Cond.instanceMethod yX4_copyFrom, Cond.selects RX4 yX4_copyFrom yX4_copyFrom, Cond.initialized RX4, Cond.code yX4_copyFrom cX4_copyFrom 3 none, Cond.fieldLink RX4 25 "ColdShips$Rows" "size" "I", Cond.fieldLink RX4 15 "ColdShips$Rows" "width" "I", Cond.fieldLink RX4 21 "ColdShips$Rows" "cells" "[J", Cond.methodLink RX4 42 arraycopyName, Cond.methodLink RX11 73 yX11_accept, Cond.instanceMethod yX11_accept, Cond.selects RX11 yX11_accept yX11_accept, Cond.code yX11_accept cX11_accept 2 (some .int)]
def wsX11_back : List Cond := .code yX11_back cX11_back 2 (some .int) :: ((wsX11_back_r1 ++ (wsX11_back_r2 ++ (wsX11_back_r3 ++ (wsX11_back_r4 ++ wsX11_back_r5)))) ++ wsX110 ++ wsX100 ++ wsX80 ++ wsX50 ++ wsX70 ++ wsX60 ++ wsX40)
def wsX11_count : List Cond := .code yX11_count cX11_count 2 (some .int) :: ([.fieldLink RX11 10 "ColdShips" "world" "LColdShips$World;", .fieldLink RX11 32 "ColdShips" "reader" "LColdShips$Reader;"] ++ wsX110 ++ wsX100 ++ wsX60 ++ wsX40 ++ wsX20)
def wsX11_status : List Cond := .code yX11_status cX11_status 1 (some .int) :: ([.fieldLink RX11 354 "ColdShips" "refusal" "I"] ++ wsX110)
def wsX12_in : List Cond := .code yX12_in cX12_in 6 (some .boolean) :: ([])
def wsX12_told : List Cond := .code yX12_told cX12_told 2 (some .int) :: ([.fieldLink RX12 94 "ColdShipsModel" "status" "I"] ++ wsX120)
def wsX12_isHour : List Cond := .code yX12_isHour cX12_isHour 1 (some .boolean) :: ([.constantLong RX12 97 (2399), .methodLink RX12 99 yX12_in, .static yX12_in, .initialized RX12, .code yX12_in cX12_in 6 (some .boolean)])
def wsX12_isDay : List Cond := .code yX12_isDay cX12_isDay 1 (some .boolean) :: ([.constantLong RX12 103 (99), .methodLink RX12 99 yX12_in, .static yX12_in, .initialized RX12, .code yX12_in cX12_in 6 (some .boolean)])
def wsX12_addFour : List Cond := .code yX12_addFour cX12_addFour 6 none :: ([.fieldLink RX12 7 "ColdShipsModel" "row" "[I"] ++ wsX120)
def wsX12_back : List Cond := .code yX12_back cX12_back 3 (some .int) :: ([.fieldLink RX12 91 "ColdShipsModel" "thrown" "I", .fieldLink RX12 16 "ColdShipsModel" "isKept" "[Z", .fieldLink RX12 7 "ColdShipsModel" "row" "[I", .fieldLink RX12 13 "ColdShipsModel" "images" "[I", .methodLink RX12 99 yX12_in, .static yX12_in, .initialized RX12, .code yX12_in cX12_in 6 (some .boolean), .methodLink RX12 105 yX12_told, .instanceMethod yX12_told, .selects RX12 yX12_told yX12_told, .code yX12_told cX12_told 2 (some .int), .fieldLink RX12 94 "ColdShipsModel" "status" "I"] ++ wsX120)
def wsX12_isTerminal : List Cond := .code yX12_isTerminal cX12_isTerminal 2 (some .boolean) :: ([.fieldLink RX12 7 "ColdShipsModel" "row" "[I", .methodLink RX12 99 yX12_in, .static yX12_in, .initialized RX12, .code yX12_in cX12_in 6 (some .boolean)] ++ wsX120)
def wsX12_isShip : List Cond := .code yX12_isShip cX12_isShip 2 (some .boolean) :: ([.fieldLink RX12 7 "ColdShipsModel" "row" "[I", .methodLink RX12 99 yX12_in, .static yX12_in, .initialized RX12, .code yX12_in cX12_in 6 (some .boolean)] ++ wsX120)
def wsX12_terminalAt : List Cond := .code yX12_terminalAt cX12_terminalAt 1 (some .int) :: ([])
def wsX12_terminal : List Cond := .code yX12_terminal cX12_terminal 6 (some .int) :: ([.fieldLink RX12 91 "ColdShipsModel" "thrown" "I", .constantLong RX12 109 (500000), .constantLong RX12 111 (10000), .constantLong RX12 113 (30), .fieldLink RX12 7 "ColdShipsModel" "row" "[I", .methodLink RX12 99 yX12_in, .static yX12_in, .initialized RX12, .code yX12_in cX12_in 6 (some .boolean), .methodLink RX12 105 yX12_told, .instanceMethod yX12_told, .selects RX12 yX12_told yX12_told, .code yX12_told cX12_told 2 (some .int), .fieldLink RX12 94 "ColdShipsModel" "status" "I", .methodLink RX12 115 yX12_terminalAt, .static yX12_terminalAt, .code yX12_terminalAt cX12_terminalAt 1 (some .int), .methodLink RX12 118 yX12_addFour, .instanceMethod yX12_addFour, .selects RX12 yX12_addFour yX12_addFour, .code yX12_addFour cX12_addFour 6 none] ++ wsX120)
def wsX12_ship : List Cond := .code yX12_ship cX12_ship 6 (some .int) :: ([.fieldLink RX12 91 "ColdShipsModel" "thrown" "I", .constantLong RX12 122 (1000), .constantLong RX12 124 (200000), .constantLong RX12 126 (50), .fieldLink RX12 7 "ColdShipsModel" "row" "[I", .methodLink RX12 99 yX12_in, .static yX12_in, .initialized RX12, .code yX12_in cX12_in 6 (some .boolean), .methodLink RX12 105 yX12_told, .instanceMethod yX12_told, .selects RX12 yX12_told yX12_told, .code yX12_told cX12_told 2 (some .int), .fieldLink RX12 94 "ColdShipsModel" "status" "I", .methodLink RX12 128 yX12_isTerminal, .instanceMethod yX12_isTerminal, .selects RX12 yX12_isTerminal yX12_isTerminal, .code yX12_isTerminal cX12_isTerminal 2 (some .boolean), .methodLink RX12 132 yX12_shipAt, .static yX12_shipAt, .code yX12_shipAt cX12_shipAt 1 (some .int)] ++ wsX120)
def wsX12_way : List Cond := .code yX12_way cX12_way 7 (some .int) :: ([.fieldLink RX12 91 "ColdShipsModel" "thrown" "I", .constantLong RX12 135 (400), .fieldLink RX12 7 "ColdShipsModel" "row" "[I", .methodLink RX12 99 yX12_in, .static yX12_in, .initialized RX12, .code yX12_in cX12_in 6 (some .boolean), .methodLink RX12 105 yX12_told, .instanceMethod yX12_told, .selects RX12 yX12_told yX12_told, .code yX12_told cX12_told 2 (some .int), .fieldLink RX12 94 "ColdShipsModel" "status" "I", .methodLink RX12 128 yX12_isTerminal, .instanceMethod yX12_isTerminal, .selects RX12 yX12_isTerminal yX12_isTerminal, .code yX12_isTerminal cX12_isTerminal 2 (some .boolean)] ++ wsX120)
def wsX12_tide : List Cond := .code yX12_tide cX12_tide 3 (some .int) :: ([.fieldLink RX12 91 "ColdShipsModel" "thrown" "I", .constantLong RX12 137 (24), .constantLong RX12 139 (9), .fieldLink RX12 7 "ColdShipsModel" "row" "[I", .methodLink RX12 99 yX12_in, .static yX12_in, .initialized RX12, .code yX12_in cX12_in 6 (some .boolean), .methodLink RX12 105 yX12_told, .instanceMethod yX12_told, .selects RX12 yX12_told yX12_told, .code yX12_told cX12_told 2 (some .int), .fieldLink RX12 94 "ColdShipsModel" "status" "I"] ++ wsX120)
def wsX12_sea : List Cond := .code yX12_sea cX12_sea 3 (some .int) :: ([.fieldLink RX12 91 "ColdShipsModel" "thrown" "I", .constantLong RX12 139 (9), .fieldLink RX12 7 "ColdShipsModel" "row" "[I", .methodLink RX12 141 yX12_isDay, .static yX12_isDay, .initialized RX12, .code yX12_isDay cX12_isDay 1 (some .boolean), .constantLong RX12 103 (99), .methodLink RX12 99 yX12_in, .static yX12_in, .code yX12_in cX12_in 6 (some .boolean), .methodLink RX12 105 yX12_told, .instanceMethod yX12_told, .selects RX12 yX12_told yX12_told, .code yX12_told cX12_told 2 (some .int), .fieldLink RX12 94 "ColdShipsModel" "status" "I"] ++ wsX120)
def wsX12_slot_r1 : List Cond := [Cond.fieldLink RX12 91 "ColdShipsModel" "thrown" "I", Cond.fieldLink RX12 7 "ColdShipsModel" "row" "[I", Cond.methodLink RX12 144 yX12_isHour, Cond.static yX12_isHour, Cond.initialized RX12, Cond.code yX12_isHour cX12_isHour 1 (some .boolean), Cond.constantLong RX12 97 (2399), Cond.methodLink RX12 99 yX12_in, Cond.static yX12_in, Cond.code yX12_in cX12_in 6 (some .boolean), Cond.methodLink RX12 105 yX12_told, Cond.instanceMethod yX12_told, Cond.selects RX12 yX12_told yX12_told, Cond.code yX12_told cX12_told 2 (some .int), Cond.fieldLink RX12 94 "ColdShipsModel" "status" "I", Cond.methodLink RX12 128 yX12_isTerminal, Cond.instanceMethod yX12_isTerminal, Cond.selects RX12 yX12_isTerminal yX12_isTerminal, Cond.code yX12_isTerminal cX12_isTerminal 2 (some .boolean), Cond.methodLink RX12 147 yX12_isShip, Cond.instanceMethod yX12_isShip, Cond.selects RX12 yX12_isShip yX12_isShip, Cond.code yX12_isShip cX12_isShip 2 (some .boolean), Cond.methodLink RX12 118 yX12_addFour]
def wsX12_slot_r2 : List Cond := [Cond.instanceMethod yX12_addFour, Cond.selects RX12 yX12_addFour yX12_addFour, Cond.code yX12_addFour cX12_addFour 6 none]
def wsX12_slot : List Cond := .code yX12_slot cX12_slot 7 (some .int) :: ((wsX12_slot_r1 ++ wsX12_slot_r2) ++ wsX120)
def wsX12_broken : List Cond := .code yX12_broken cX12_broken 5 (some .int) :: ([.fieldLink RX12 91 "ColdShipsModel" "thrown" "I", .fieldLink RX12 7 "ColdShipsModel" "row" "[I", .methodLink RX12 144 yX12_isHour, .static yX12_isHour, .initialized RX12, .code yX12_isHour cX12_isHour 1 (some .boolean), .constantLong RX12 97 (2399), .methodLink RX12 99 yX12_in, .static yX12_in, .code yX12_in cX12_in 6 (some .boolean), .methodLink RX12 105 yX12_told, .instanceMethod yX12_told, .selects RX12 yX12_told yX12_told, .code yX12_told cX12_told 2 (some .int), .fieldLink RX12 94 "ColdShipsModel" "status" "I", .methodLink RX12 128 yX12_isTerminal, .instanceMethod yX12_isTerminal, .selects RX12 yX12_isTerminal yX12_isTerminal, .code yX12_isTerminal cX12_isTerminal 2 (some .boolean)] ++ wsX120)
def wsX12_terms : List Cond := .code yX12_terms cX12_terms 3 (some .int) :: ([.fieldLink RX12 91 "ColdShipsModel" "thrown" "I", .constantLong RX12 150 (100), .constantLong RX12 122 (1000), .fieldLink RX12 7 "ColdShipsModel" "row" "[I", .methodLink RX12 99 yX12_in, .static yX12_in, .initialized RX12, .code yX12_in cX12_in 6 (some .boolean), .methodLink RX12 105 yX12_told, .instanceMethod yX12_told, .selects RX12 yX12_told yX12_told, .code yX12_told cX12_told 2 (some .int), .fieldLink RX12 94 "ColdShipsModel" "status" "I"] ++ wsX120)
def wsX12_order_r1 : List Cond := [Cond.fieldLink RX12 91 "ColdShipsModel" "thrown" "I", Cond.constantLong RX12 152 (3), Cond.constantLong RX12 124 (200000), Cond.fieldLink RX12 7 "ColdShipsModel" "row" "[I", Cond.methodLink RX12 99 yX12_in, Cond.static yX12_in, Cond.initialized RX12, Cond.code yX12_in cX12_in 6 (some .boolean), Cond.methodLink RX12 144 yX12_isHour, Cond.static yX12_isHour, Cond.code yX12_isHour cX12_isHour 1 (some .boolean), Cond.constantLong RX12 97 (2399), Cond.methodLink RX12 105 yX12_told, Cond.instanceMethod yX12_told, Cond.selects RX12 yX12_told yX12_told, Cond.code yX12_told cX12_told 2 (some .int), Cond.fieldLink RX12 94 "ColdShipsModel" "status" "I", Cond.methodLink RX12 147 yX12_isShip, Cond.instanceMethod yX12_isShip, Cond.selects RX12 yX12_isShip yX12_isShip, Cond.code yX12_isShip cX12_isShip 2 (some .boolean), Cond.methodLink RX12 128 yX12_isTerminal, Cond.instanceMethod yX12_isTerminal, Cond.selects RX12 yX12_isTerminal yX12_isTerminal]
def wsX12_order_r2 : List Cond := [Cond.code yX12_isTerminal cX12_isTerminal 2 (some .boolean), Cond.methodLink RX12 132 yX12_shipAt, Cond.static yX12_shipAt, Cond.code yX12_shipAt cX12_shipAt 1 (some .int), Cond.methodLink RX12 154 yX12_beginOrder, Cond.instanceMethod yX12_beginOrder, Cond.selects RX12 yX12_beginOrder yX12_beginOrder, Cond.code yX12_beginOrder cX12_beginOrder 3 none]
def wsX12_order : List Cond := .code yX12_order cX12_order 7 (some .int) :: ((wsX12_order_r1 ++ wsX12_order_r2) ++ wsX120)
def wsX12_of_r1 : List Cond := [Cond.fieldLink RX12 91 "ColdShipsModel" "thrown" "I", Cond.fieldLink RX12 7 "ColdShipsModel" "row" "[I", Cond.methodLink RX12 147 yX12_isShip, Cond.instanceMethod yX12_isShip, Cond.selects RX12 yX12_isShip yX12_isShip, Cond.initialized RX12, Cond.code yX12_isShip cX12_isShip 2 (some .boolean), Cond.methodLink RX12 99 yX12_in, Cond.static yX12_in, Cond.code yX12_in cX12_in 6 (some .boolean), Cond.methodLink RX12 132 yX12_shipAt, Cond.static yX12_shipAt, Cond.code yX12_shipAt cX12_shipAt 1 (some .int), Cond.methodLink RX12 234 yX12_pressOf, Cond.instanceMethod yX12_pressOf, Cond.selects RX12 yX12_pressOf yX12_pressOf, Cond.code yX12_pressOf cX12_pressOf 2 (some .int), Cond.constantLong RX12 122 (1000), Cond.methodLink RX12 164 yX12_roomOf, Cond.instanceMethod yX12_roomOf, Cond.selects RX12 yX12_roomOf yX12_roomOf, Cond.code yX12_roomOf cX12_roomOf 2 (some .int), Cond.methodLink RX12 225 yX12_draftOf, Cond.instanceMethod yX12_draftOf]
def wsX12_of_r2 : List Cond := [Cond.selects RX12 yX12_draftOf yX12_draftOf, Cond.code yX12_draftOf cX12_draftOf 2 (some .int), Cond.constantLong RX12 162 (8)]
def wsX12_of : List Cond := .code yX12_of cX12_of 4 (some .int) :: ((wsX12_of_r1 ++ wsX12_of_r2) ++ wsX120)
def wsX12_part : List Cond := .code yX12_part cX12_part 3 (some .int) :: ([.fieldLink RX12 91 "ColdShipsModel" "thrown" "I", .fieldLink RX12 7 "ColdShipsModel" "row" "[I", .methodLink RX12 147 yX12_isShip, .instanceMethod yX12_isShip, .selects RX12 yX12_isShip yX12_isShip, .initialized RX12, .code yX12_isShip cX12_isShip 2 (some .boolean), .methodLink RX12 99 yX12_in, .static yX12_in, .code yX12_in cX12_in 6 (some .boolean), .methodLink RX12 128 yX12_isTerminal, .instanceMethod yX12_isTerminal, .selects RX12 yX12_isTerminal yX12_isTerminal, .code yX12_isTerminal cX12_isTerminal 2 (some .boolean), .methodLink RX12 132 yX12_shipAt, .static yX12_shipAt, .code yX12_shipAt cX12_shipAt 1 (some .int)] ++ wsX120)
def wsX12_book : List Cond := .code yX12_book cX12_book 3 (some .long) :: ([.fieldLink RX12 91 "ColdShipsModel" "thrown" "I", .constantLong RX12 152 (3), .fieldLink RX12 7 "ColdShipsModel" "row" "[I", .constantLong RX12 158 (-1), .methodLink RX12 147 yX12_isShip, .instanceMethod yX12_isShip, .selects RX12 yX12_isShip yX12_isShip, .initialized RX12, .code yX12_isShip cX12_isShip 2 (some .boolean), .methodLink RX12 99 yX12_in, .static yX12_in, .code yX12_in cX12_in 6 (some .boolean), .methodLink RX12 132 yX12_shipAt, .static yX12_shipAt, .code yX12_shipAt cX12_shipAt 1 (some .int)] ++ wsX120)
def wsX12_store : List Cond := .code yX12_store cX12_store 2 (some .int) :: ([.fieldLink RX12 91 "ColdShipsModel" "thrown" "I", .fieldLink RX12 7 "ColdShipsModel" "row" "[I", .methodLink RX12 128 yX12_isTerminal, .instanceMethod yX12_isTerminal, .selects RX12 yX12_isTerminal yX12_isTerminal, .initialized RX12, .code yX12_isTerminal cX12_isTerminal 2 (some .boolean), .methodLink RX12 99 yX12_in, .static yX12_in, .code yX12_in cX12_in 6 (some .boolean), .methodLink RX12 115 yX12_terminalAt, .static yX12_terminalAt, .code yX12_terminalAt cX12_terminalAt 1 (some .int)] ++ wsX120)
def wsX12_isLanding : List Cond := .code yX12_isLanding cX12_isLanding 2 (some .boolean) :: ([.fieldLink RX12 7 "ColdShipsModel" "row" "[I", .methodLink RX12 99 yX12_in, .static yX12_in, .initialized RX12, .code yX12_in cX12_in 6 (some .boolean)] ++ wsX120)
def wsX12_landing : List Cond := .code yX12_landing cX12_landing 4 (some .int) :: ([.fieldLink RX12 91 "ColdShipsModel" "thrown" "I", .constantLong RX12 240 (6), .fieldLink RX12 7 "ColdShipsModel" "row" "[I", .methodLink RX12 237 yX12_isLanding, .instanceMethod yX12_isLanding, .selects RX12 yX12_isLanding yX12_isLanding, .initialized RX12, .code yX12_isLanding cX12_isLanding 2 (some .boolean), .methodLink RX12 99 yX12_in, .static yX12_in, .code yX12_in cX12_in 6 (some .boolean), .methodLink RX12 242 yX12_landingAt, .static yX12_landingAt, .code yX12_landingAt cX12_landingAt 1 (some .int), .methodLink RX12 245 yX12_heatOf, .instanceMethod yX12_heatOf, .selects RX12 yX12_heatOf yX12_heatOf, .code yX12_heatOf cX12_heatOf 5 (some .int), .methodLink RX12 115 yX12_terminalAt, .static yX12_terminalAt, .code yX12_terminalAt cX12_terminalAt 1 (some .int)] ++ wsX120)
def wsX12_led : List Cond := .code yX12_led cX12_led 3 (some .int) :: ([.fieldLink RX12 91 "ColdShipsModel" "thrown" "I", .fieldLink RX12 7 "ColdShipsModel" "row" "[I", .methodLink RX12 237 yX12_isLanding, .instanceMethod yX12_isLanding, .selects RX12 yX12_isLanding yX12_isLanding, .initialized RX12, .code yX12_isLanding cX12_isLanding 2 (some .boolean), .methodLink RX12 99 yX12_in, .static yX12_in, .code yX12_in cX12_in 6 (some .boolean), .methodLink RX12 128 yX12_isTerminal, .instanceMethod yX12_isTerminal, .selects RX12 yX12_isTerminal yX12_isTerminal, .code yX12_isTerminal cX12_isTerminal 2 (some .boolean), .methodLink RX12 242 yX12_landingAt, .static yX12_landingAt, .code yX12_landingAt cX12_landingAt 1 (some .int)] ++ wsX120)
def wsX12_heat : List Cond := .code yX12_heat cX12_heat 4 (some .int) :: ([.fieldLink RX12 91 "ColdShipsModel" "thrown" "I", .constantLong RX12 248 (500), .constantLong RX12 250 (2000), .fieldLink RX12 7 "ColdShipsModel" "row" "[I", .methodLink RX12 99 yX12_in, .static yX12_in, .initialized RX12, .code yX12_in cX12_in 6 (some .boolean), .methodLink RX12 105 yX12_told, .instanceMethod yX12_told, .selects RX12 yX12_told yX12_told, .code yX12_told cX12_told 2 (some .int), .fieldLink RX12 94 "ColdShipsModel" "status" "I", .methodLink RX12 128 yX12_isTerminal, .instanceMethod yX12_isTerminal, .selects RX12 yX12_isTerminal yX12_isTerminal, .code yX12_isTerminal cX12_isTerminal 2 (some .boolean), .methodLink RX12 115 yX12_terminalAt, .static yX12_terminalAt, .code yX12_terminalAt cX12_terminalAt 1 (some .int)] ++ wsX120)
def wsX12_price : List Cond := .code yX12_price cX12_price 5 (some .int) :: ([.fieldLink RX12 91 "ColdShipsModel" "thrown" "I", .constantLong RX12 111 (10000), .fieldLink RX12 7 "ColdShipsModel" "row" "[I", .methodLink RX12 141 yX12_isDay, .static yX12_isDay, .initialized RX12, .code yX12_isDay cX12_isDay 1 (some .boolean), .constantLong RX12 103 (99), .methodLink RX12 99 yX12_in, .static yX12_in, .code yX12_in cX12_in 6 (some .boolean), .methodLink RX12 144 yX12_isHour, .static yX12_isHour, .code yX12_isHour cX12_isHour 1 (some .boolean), .constantLong RX12 97 (2399), .methodLink RX12 105 yX12_told, .instanceMethod yX12_told, .selects RX12 yX12_told yX12_told, .code yX12_told cX12_told 2 (some .int), .fieldLink RX12 94 "ColdShipsModel" "status" "I"] ++ wsX120)
def wsX12_force : List Cond := .code yX12_force cX12_force 5 (some .int) :: ([.fieldLink RX12 91 "ColdShipsModel" "thrown" "I", .fieldLink RX12 7 "ColdShipsModel" "row" "[I", .methodLink RX12 144 yX12_isHour, .static yX12_isHour, .initialized RX12, .code yX12_isHour cX12_isHour 1 (some .boolean), .constantLong RX12 97 (2399), .methodLink RX12 99 yX12_in, .static yX12_in, .code yX12_in cX12_in 6 (some .boolean), .methodLink RX12 105 yX12_told, .instanceMethod yX12_told, .selects RX12 yX12_told yX12_told, .code yX12_told cX12_told 2 (some .int), .fieldLink RX12 94 "ColdShipsModel" "status" "I"] ++ wsX120)
def wsX12_bill : List Cond := .code yX12_bill cX12_bill 3 (some .int) :: ([.fieldLink RX12 91 "ColdShipsModel" "thrown" "I", .constantLong RX12 124 (200000), .fieldLink RX12 7 "ColdShipsModel" "row" "[I", .methodLink RX12 99 yX12_in, .static yX12_in, .initialized RX12, .code yX12_in cX12_in 6 (some .boolean), .methodLink RX12 105 yX12_told, .instanceMethod yX12_told, .selects RX12 yX12_told yX12_told, .code yX12_told cX12_told 2 (some .int), .fieldLink RX12 94 "ColdShipsModel" "status" "I", .methodLink RX12 237 yX12_isLanding, .instanceMethod yX12_isLanding, .selects RX12 yX12_isLanding yX12_isLanding, .code yX12_isLanding cX12_isLanding 2 (some .boolean), .methodLink RX12 242 yX12_landingAt, .static yX12_landingAt, .code yX12_landingAt cX12_landingAt 1 (some .int)] ++ wsX120)
def wsX12_end : List Cond := .code yX12_end cX12_end 2 (some .int) :: ([.fieldLink RX12 91 "ColdShipsModel" "thrown" "I", .fieldLink RX12 252 "ColdShipsModel" "taped" "I"] ++ wsX120)
def wsX12_fault : List Cond := .code yX12_fault cX12_fault 1 (some .int) :: ([.fieldLink RX12 91 "ColdShipsModel" "thrown" "I", .fieldLink RX12 30 "ColdShipsModel" "fault" "I"] ++ wsX120)
def wsX12_isContract : List Cond := .code yX12_isContract cX12_isContract 2 (some .boolean) :: ([.fieldLink RX12 7 "ColdShipsModel" "row" "[I", .methodLink RX12 99 yX12_in, .static yX12_in, .initialized RX12, .code yX12_in cX12_in 6 (some .boolean)] ++ wsX120)
def wsX12_due_r1 : List Cond := [Cond.fieldLink RX12 91 "ColdShipsModel" "thrown" "I", Cond.constantLong RX12 464 (4), Cond.constantLong RX12 466 (-2000000000000000), Cond.fieldLink RX12 452 "ColdShipsModel" "pays" "J", Cond.fieldLink RX12 455 "ColdShipsModel" "fines" "J", Cond.fieldLink RX12 49 "ColdShipsModel" "set" "[J", Cond.methodLink RX12 237 yX12_isLanding, Cond.instanceMethod yX12_isLanding, Cond.selects RX12 yX12_isLanding yX12_isLanding, Cond.initialized RX12, Cond.code yX12_isLanding cX12_isLanding 2 (some .boolean), Cond.fieldLink RX12 7 "ColdShipsModel" "row" "[I", Cond.methodLink RX12 99 yX12_in, Cond.static yX12_in, Cond.code yX12_in cX12_in 6 (some .boolean), Cond.methodLink RX12 461 yX12_isContract, Cond.instanceMethod yX12_isContract, Cond.selects RX12 yX12_isContract yX12_isContract, Cond.code yX12_isContract cX12_isContract 2 (some .boolean), Cond.methodLink RX12 144 yX12_isHour, Cond.static yX12_isHour, Cond.code yX12_isHour cX12_isHour 1 (some .boolean), Cond.constantLong RX12 97 (2399), Cond.methodLink RX12 242 yX12_landingAt]
def wsX12_due_r2 : List Cond := [Cond.static yX12_landingAt, Cond.code yX12_landingAt cX12_landingAt 1 (some .int), Cond.methodLink RX12 468 yX12_contractAt, Cond.static yX12_contractAt, Cond.code yX12_contractAt cX12_contractAt 1 (some .int), Cond.methodLink RX12 471 yX12_setFor, Cond.instanceMethod yX12_setFor, Cond.selects RX12 yX12_setFor yX12_setFor, Cond.code yX12_setFor cX12_setFor 7 none, Cond.methodLink RX12 425 yX12_billed, Cond.instanceMethod yX12_billed, Cond.selects RX12 yX12_billed yX12_billed, Cond.code yX12_billed cX12_billed 2 (some .int), Cond.methodLink RX12 245 yX12_heatOf, Cond.instanceMethod yX12_heatOf, Cond.selects RX12 yX12_heatOf yX12_heatOf, Cond.code yX12_heatOf cX12_heatOf 5 (some .int), Cond.methodLink RX12 115 yX12_terminalAt, Cond.static yX12_terminalAt, Cond.code yX12_terminalAt cX12_terminalAt 1 (some .int), Cond.methodLink RX12 428 yX12_isForce, Cond.instanceMethod yX12_isForce, Cond.selects RX12 yX12_isForce yX12_isForce, Cond.code yX12_isForce cX12_isForce 6 (some .boolean)]
def wsX12_due_r3 : List Cond := [Cond.methodLink RX12 431 yX12_priceOf, Cond.instanceMethod yX12_priceOf, Cond.selects RX12 yX12_priceOf yX12_priceOf, Cond.code yX12_priceOf cX12_priceOf 7 (some .int), Cond.methodLink RX12 474 yX12_judgeLanding, Cond.instanceMethod yX12_judgeLanding, Cond.selects RX12 yX12_judgeLanding yX12_judgeLanding, Cond.code yX12_judgeLanding cX12_judgeLanding 6 none, Cond.fieldLink RX12 440 "ColdShipsModel" "broken" "Z", Cond.fieldLink RX12 449 "ColdShipsModel" "value" "J", Cond.methodLink RX12 458 yX12_run, Cond.instanceMethod yX12_run, Cond.selects RX12 yX12_run yX12_run, Cond.code yX12_run cX12_run 8 none, Cond.fieldLink RX12 52 "ColdShipsModel" "rest" "[J", Cond.constantLong RX12 447 (-1000000000000), Cond.constantLong RX12 438 (1000000000000), Cond.methodLink RX12 443 yX12_reckon, Cond.instanceMethod yX12_reckon, Cond.selects RX12 yX12_reckon yX12_reckon, Cond.code yX12_reckon cX12_reckon 6 (some .long), Cond.methodLink RX12 434 yX12_size, Cond.static yX12_size, Cond.code yX12_size cX12_size 2 (some .long)]
def wsX12_due : List Cond := .code yX12_due cX12_due 7 (some .long) :: ((wsX12_due_r1 ++ (wsX12_due_r2 ++ wsX12_due_r3)) ++ wsX120)
def wsX12_settle_r1 : List Cond := [Cond.fieldLink RX12 91 "ColdShipsModel" "thrown" "I", Cond.fieldLink RX12 7 "ColdShipsModel" "row" "[I", Cond.fieldLink RX12 452 "ColdShipsModel" "pays" "J", Cond.fieldLink RX12 455 "ColdShipsModel" "fines" "J", Cond.methodLink RX12 237 yX12_isLanding, Cond.instanceMethod yX12_isLanding, Cond.selects RX12 yX12_isLanding yX12_isLanding, Cond.initialized RX12, Cond.code yX12_isLanding cX12_isLanding 2 (some .boolean), Cond.methodLink RX12 99 yX12_in, Cond.static yX12_in, Cond.code yX12_in cX12_in 6 (some .boolean), Cond.methodLink RX12 461 yX12_isContract, Cond.instanceMethod yX12_isContract, Cond.selects RX12 yX12_isContract yX12_isContract, Cond.code yX12_isContract cX12_isContract 2 (some .boolean), Cond.methodLink RX12 105 yX12_told, Cond.instanceMethod yX12_told, Cond.selects RX12 yX12_told yX12_told, Cond.code yX12_told cX12_told 2 (some .int), Cond.fieldLink RX12 94 "ColdShipsModel" "status" "I", Cond.methodLink RX12 242 yX12_landingAt, Cond.static yX12_landingAt, Cond.code yX12_landingAt cX12_landingAt 1 (some .int)]
def wsX12_settle_r2 : List Cond := [Cond.methodLink RX12 468 yX12_contractAt, Cond.static yX12_contractAt, Cond.code yX12_contractAt cX12_contractAt 1 (some .int), Cond.methodLink RX12 471 yX12_setFor, Cond.instanceMethod yX12_setFor, Cond.selects RX12 yX12_setFor yX12_setFor, Cond.code yX12_setFor cX12_setFor 7 none, Cond.fieldLink RX12 49 "ColdShipsModel" "set" "[J", Cond.methodLink RX12 425 yX12_billed, Cond.instanceMethod yX12_billed, Cond.selects RX12 yX12_billed yX12_billed, Cond.code yX12_billed cX12_billed 2 (some .int), Cond.methodLink RX12 245 yX12_heatOf, Cond.instanceMethod yX12_heatOf, Cond.selects RX12 yX12_heatOf yX12_heatOf, Cond.code yX12_heatOf cX12_heatOf 5 (some .int), Cond.methodLink RX12 115 yX12_terminalAt, Cond.static yX12_terminalAt, Cond.code yX12_terminalAt cX12_terminalAt 1 (some .int), Cond.methodLink RX12 428 yX12_isForce, Cond.instanceMethod yX12_isForce, Cond.selects RX12 yX12_isForce yX12_isForce, Cond.code yX12_isForce cX12_isForce 6 (some .boolean), Cond.methodLink RX12 431 yX12_priceOf]
def wsX12_settle_r3 : List Cond := [Cond.instanceMethod yX12_priceOf, Cond.selects RX12 yX12_priceOf yX12_priceOf, Cond.code yX12_priceOf cX12_priceOf 7 (some .int), Cond.methodLink RX12 474 yX12_judgeLanding, Cond.instanceMethod yX12_judgeLanding, Cond.selects RX12 yX12_judgeLanding yX12_judgeLanding, Cond.code yX12_judgeLanding cX12_judgeLanding 6 none, Cond.fieldLink RX12 440 "ColdShipsModel" "broken" "Z", Cond.fieldLink RX12 449 "ColdShipsModel" "value" "J", Cond.methodLink RX12 458 yX12_run, Cond.instanceMethod yX12_run, Cond.selects RX12 yX12_run yX12_run, Cond.code yX12_run cX12_run 8 none, Cond.fieldLink RX12 52 "ColdShipsModel" "rest" "[J", Cond.constantLong RX12 447 (-1000000000000), Cond.constantLong RX12 438 (1000000000000), Cond.methodLink RX12 443 yX12_reckon, Cond.instanceMethod yX12_reckon, Cond.selects RX12 yX12_reckon yX12_reckon, Cond.code yX12_reckon cX12_reckon 6 (some .long), Cond.methodLink RX12 434 yX12_size, Cond.static yX12_size, Cond.code yX12_size cX12_size 2 (some .long)]
def wsX12_settle : List Cond := .code yX12_settle cX12_settle 6 (some .int) :: ((wsX12_settle_r1 ++ (wsX12_settle_r2 ++ wsX12_settle_r3)) ++ wsX120)
def wsX12_settled : List Cond := .code yX12_settled cX12_settled 4 (some .long) :: ([.fieldLink RX12 91 "ColdShipsModel" "thrown" "I", .constantLong RX12 477 (2), .fieldLink RX12 7 "ColdShipsModel" "row" "[I", .constantLong RX12 466 (-2000000000000000), .constantLong RX12 479 (4294967295), .methodLink RX12 237 yX12_isLanding, .instanceMethod yX12_isLanding, .selects RX12 yX12_isLanding yX12_isLanding, .initialized RX12, .code yX12_isLanding cX12_isLanding 2 (some .boolean), .methodLink RX12 99 yX12_in, .static yX12_in, .code yX12_in cX12_in 6 (some .boolean), .methodLink RX12 242 yX12_landingAt, .static yX12_landingAt, .code yX12_landingAt cX12_landingAt 1 (some .int)] ++ wsX120)
def wsX12_table : List Cond := .code yX12_table cX12_table 6 (some .int) :: ([.fieldLink RX12 91 "ColdShipsModel" "thrown" "I", .constantLong RX12 152 (3), .constantLong RX12 481 (5000), .constantLong RX12 124 (200000), .fieldLink RX12 7 "ColdShipsModel" "row" "[I", .methodLink RX12 99 yX12_in, .static yX12_in, .initialized RX12, .code yX12_in cX12_in 6 (some .boolean), .methodLink RX12 105 yX12_told, .instanceMethod yX12_told, .selects RX12 yX12_told yX12_told, .code yX12_told cX12_told 2 (some .int), .fieldLink RX12 94 "ColdShipsModel" "status" "I", .methodLink RX12 147 yX12_isShip, .instanceMethod yX12_isShip, .selects RX12 yX12_isShip yX12_isShip, .code yX12_isShip cX12_isShip 2 (some .boolean), .methodLink RX12 132 yX12_shipAt, .static yX12_shipAt, .code yX12_shipAt cX12_shipAt 1 (some .int)] ++ wsX120)
def wsX12_list : List Cond := .code yX12_list cX12_list 4 (some .int) :: ([.fieldLink RX12 91 "ColdShipsModel" "thrown" "I", .constantLong RX12 483 (-50), .constantLong RX12 126 (50), .fieldLink RX12 7 "ColdShipsModel" "row" "[I", .fieldLink RX12 94 "ColdShipsModel" "status" "I", .methodLink RX12 99 yX12_in, .static yX12_in, .initialized RX12, .code yX12_in cX12_in 6 (some .boolean), .methodLink RX12 105 yX12_told, .instanceMethod yX12_told, .selects RX12 yX12_told yX12_told, .code yX12_told cX12_told 2 (some .int), .methodLink RX12 147 yX12_isShip, .instanceMethod yX12_isShip, .selects RX12 yX12_isShip yX12_isShip, .code yX12_isShip cX12_isShip 2 (some .boolean), .methodLink RX12 132 yX12_shipAt, .static yX12_shipAt, .code yX12_shipAt cX12_shipAt 1 (some .int)] ++ wsX120)
def wsX12_reading_r1 : List Cond := [Cond.fieldLink RX12 91 "ColdShipsModel" "thrown" "I", Cond.constantLong RX12 481 (5000), Cond.constantLong RX12 485 (-20), Cond.constantLong RX12 487 (20), Cond.fieldLink RX12 7 "ColdShipsModel" "row" "[I", Cond.methodLink RX12 99 yX12_in, Cond.static yX12_in, Cond.initialized RX12, Cond.code yX12_in cX12_in 6 (some .boolean), Cond.methodLink RX12 144 yX12_isHour, Cond.static yX12_isHour, Cond.code yX12_isHour cX12_isHour 1 (some .boolean), Cond.constantLong RX12 97 (2399), Cond.methodLink RX12 105 yX12_told, Cond.instanceMethod yX12_told, Cond.selects RX12 yX12_told yX12_told, Cond.code yX12_told cX12_told 2 (some .int), Cond.fieldLink RX12 94 "ColdShipsModel" "status" "I", Cond.methodLink RX12 237 yX12_isLanding, Cond.instanceMethod yX12_isLanding, Cond.selects RX12 yX12_isLanding yX12_isLanding, Cond.code yX12_isLanding cX12_isLanding 2 (some .boolean), Cond.methodLink RX12 118 yX12_addFour, Cond.instanceMethod yX12_addFour]
def wsX12_reading_r2 : List Cond := [Cond.selects RX12 yX12_addFour yX12_addFour, Cond.code yX12_addFour cX12_addFour 6 none]
def wsX12_reading : List Cond := .code yX12_reading cX12_reading 7 (some .int) :: ((wsX12_reading_r1 ++ wsX12_reading_r2) ++ wsX120)
def wsX12_gauged_r1 : List Cond := [Cond.fieldLink RX12 91 "ColdShipsModel" "thrown" "I", Cond.constantLong RX12 152 (3), Cond.constantLong RX12 466 (-2000000000000000), Cond.fieldLink RX12 7 "ColdShipsModel" "row" "[I", Cond.methodLink RX12 237 yX12_isLanding, Cond.instanceMethod yX12_isLanding, Cond.selects RX12 yX12_isLanding yX12_isLanding, Cond.initialized RX12, Cond.code yX12_isLanding cX12_isLanding 2 (some .boolean), Cond.methodLink RX12 99 yX12_in, Cond.static yX12_in, Cond.code yX12_in cX12_in 6 (some .boolean), Cond.methodLink RX12 144 yX12_isHour, Cond.static yX12_isHour, Cond.code yX12_isHour cX12_isHour 1 (some .boolean), Cond.constantLong RX12 97 (2399), Cond.methodLink RX12 496 yX12_gaugedBy, Cond.instanceMethod yX12_gaugedBy, Cond.selects RX12 yX12_gaugedBy yX12_gaugedBy, Cond.code yX12_gaugedBy cX12_gaugedBy 9 (some .long), Cond.methodLink RX12 242 yX12_landingAt, Cond.static yX12_landingAt, Cond.code yX12_landingAt cX12_landingAt 1 (some .int), Cond.methodLink RX12 132 yX12_shipAt]
def wsX12_gauged_r2 : List Cond := [Cond.static yX12_shipAt, Cond.code yX12_shipAt cX12_shipAt 1 (some .int), Cond.methodLink RX12 489 yX12_tonsBy, Cond.instanceMethod yX12_tonsBy, Cond.selects RX12 yX12_tonsBy yX12_tonsBy, Cond.code yX12_tonsBy cX12_tonsBy 7 (some .long), Cond.methodLink RX12 493 yX12_hasTable, Cond.instanceMethod yX12_hasTable, Cond.selects RX12 yX12_hasTable yX12_hasTable, Cond.code yX12_hasTable cX12_hasTable 5 (some .boolean), Cond.methodLink RX12 425 yX12_billed, Cond.instanceMethod yX12_billed, Cond.selects RX12 yX12_billed yX12_billed, Cond.code yX12_billed cX12_billed 2 (some .int), Cond.methodLink RX12 431 yX12_priceOf, Cond.instanceMethod yX12_priceOf, Cond.selects RX12 yX12_priceOf yX12_priceOf, Cond.code yX12_priceOf cX12_priceOf 7 (some .int)]
def wsX12_gauged : List Cond := .code yX12_gauged cX12_gauged 11 (some .long) :: ((wsX12_gauged_r1 ++ wsX12_gauged_r2) ++ wsX120)
def wsX12_cargo_r1 : List Cond := [Cond.fieldLink RX12 91 "ColdShipsModel" "thrown" "I", Cond.constantLong RX12 124 (200000), Cond.constantLong RX12 122 (1000), Cond.fieldLink RX12 7 "ColdShipsModel" "row" "[I", Cond.methodLink RX12 144 yX12_isHour, Cond.static yX12_isHour, Cond.initialized RX12, Cond.code yX12_isHour cX12_isHour 1 (some .boolean), Cond.constantLong RX12 97 (2399), Cond.methodLink RX12 99 yX12_in, Cond.static yX12_in, Cond.code yX12_in cX12_in 6 (some .boolean), Cond.methodLink RX12 105 yX12_told, Cond.instanceMethod yX12_told, Cond.selects RX12 yX12_told yX12_told, Cond.code yX12_told cX12_told 2 (some .int), Cond.fieldLink RX12 94 "ColdShipsModel" "status" "I", Cond.methodLink RX12 128 yX12_isTerminal, Cond.instanceMethod yX12_isTerminal, Cond.selects RX12 yX12_isTerminal yX12_isTerminal, Cond.code yX12_isTerminal cX12_isTerminal 2 (some .boolean), Cond.methodLink RX12 118 yX12_addFour, Cond.instanceMethod yX12_addFour, Cond.selects RX12 yX12_addFour yX12_addFour]
def wsX12_cargo_r2 : List Cond := [Cond.code yX12_addFour cX12_addFour 6 none]
def wsX12_cargo : List Cond := .code yX12_cargo cX12_cargo 10 (some .int) :: ((wsX12_cargo_r1 ++ wsX12_cargo_r2) ++ wsX120)
def wsX12_clear : List Cond := .code yX12_clear cX12_clear 2 (some .int) :: ([.fieldLink RX12 91 "ColdShipsModel" "thrown" "I", .fieldLink RX12 7 "ColdShipsModel" "row" "[I"] ++ wsX120)
def wsX12_judge_r1 : List Cond := [Cond.fieldLink RX12 91 "ColdShipsModel" "thrown" "I", Cond.constantLong RX12 466 (-2000000000000000), Cond.fieldLink RX12 64 "ColdShipsModel" "line" "[I", Cond.fieldLink RX12 7 "ColdShipsModel" "row" "[I", Cond.methodLink RX12 147 yX12_isShip, Cond.instanceMethod yX12_isShip, Cond.selects RX12 yX12_isShip yX12_isShip, Cond.initialized RX12, Cond.code yX12_isShip cX12_isShip 2 (some .boolean), Cond.methodLink RX12 99 yX12_in, Cond.static yX12_in, Cond.code yX12_in cX12_in 6 (some .boolean), Cond.methodLink RX12 144 yX12_isHour, Cond.static yX12_isHour, Cond.code yX12_isHour cX12_isHour 1 (some .boolean), Cond.constantLong RX12 97 (2399), Cond.methodLink RX12 519 yX12_sailRow, Cond.instanceMethod yX12_sailRow, Cond.selects RX12 yX12_sailRow yX12_sailRow, Cond.code yX12_sailRow cX12_sailRow 7 (some .long), Cond.fieldLink RX12 500 "ColdShipsModel" "clock" "I", Cond.fieldLink RX12 503 "ColdShipsModel" "place" "I", Cond.fieldLink RX12 61 "ColdShipsModel" "worths" "[J", Cond.methodLink RX12 132 yX12_shipAt]
def wsX12_judge_r2 : List Cond := [Cond.static yX12_shipAt, Cond.code yX12_shipAt cX12_shipAt 1 (some .int), Cond.methodLink RX12 516 yX12_carry, Cond.instanceMethod yX12_carry, Cond.selects RX12 yX12_carry yX12_carry, Cond.code yX12_carry cX12_carry 12 (some .boolean), Cond.fieldLink RX12 55 "ColdShipsModel" "loads" "[I", Cond.fieldLink RX12 506 "ColdShipsModel" "began" "I", Cond.fieldLink RX12 58 "ColdShipsModel" "lands" "[I", Cond.constantLong RX12 177 (100000), Cond.constantLong RX12 150 (100), Cond.methodLink RX12 231 yX12_topOf, Cond.instanceMethod yX12_topOf, Cond.selects RX12 yX12_topOf yX12_topOf, Cond.code yX12_topOf cX12_topOf 2 (some .int), Cond.constantLong RX12 160 (98), Cond.methodLink RX12 115 yX12_terminalAt, Cond.static yX12_terminalAt, Cond.code yX12_terminalAt cX12_terminalAt 1 (some .int), Cond.methodLink RX12 512 yX12_goTo, Cond.instanceMethod yX12_goTo, Cond.selects RX12 yX12_goTo yX12_goTo, Cond.code yX12_goTo cX12_goTo 6 (some .int), Cond.methodLink RX12 217 yX12_wayOf]
def wsX12_judge_r3 : List Cond := [Cond.instanceMethod yX12_wayOf, Cond.selects RX12 yX12_wayOf yX12_wayOf, Cond.code yX12_wayOf cX12_wayOf 3 (some .int), Cond.methodLink RX12 509 yX12_work, Cond.instanceMethod yX12_work, Cond.selects RX12 yX12_work yX12_work, Cond.code yX12_work cX12_work 4 (some .boolean), Cond.methodLink RX12 221 yX12_isBroken, Cond.instanceMethod yX12_isBroken, Cond.selects RX12 yX12_isBroken yX12_isBroken, Cond.code yX12_isBroken cX12_isBroken 6 (some .boolean)]
def wsX12_judge : List Cond := .code yX12_judge cX12_judge 9 (some .long) :: ((wsX12_judge_r1 ++ (wsX12_judge_r2 ++ wsX12_judge_r3)) ++ wsX120)
def wsX12_voyage : List Cond := .code yX12_voyage cX12_voyage 3 (some .long) :: ([.fieldLink RX12 91 "ColdShipsModel" "thrown" "I", .fieldLink RX12 538 "ColdShipsModel" "hasBest" "Z", .fieldLink RX12 541 "ColdShipsModel" "bestCargoes" "I", .constantLong RX12 464 (4), .fieldLink RX12 82 "ColdShipsModel" "bestTold" "[J", .constantLong RX12 466 (-2000000000000000), .methodLink RX12 99 yX12_in, .static yX12_in, .initialized RX12, .code yX12_in cX12_in 6 (some .boolean)] ++ wsX120)
def wsX12_count : List Cond := .code yX12_count cX12_count 2 (some .int) :: ([.fieldLink RX12 91 "ColdShipsModel" "thrown" "I", .fieldLink RX12 7 "ColdShipsModel" "row" "[I", .fieldLink RX12 252 "ColdShipsModel" "taped" "I"] ++ wsX120)
def wsX12_status : List Cond := .code yX12_status cX12_status 1 (some .int) :: ([.fieldLink RX12 91 "ColdShipsModel" "thrown" "I", .fieldLink RX12 94 "ColdShipsModel" "status" "I"] ++ wsX120)
set_option maxRecDepth 20000 in
theorem ggX1_sails_X10_hasShip : GoodIn wsX1_sails wsX10_hasShip := goodIn_r _ [6, 7, 23, 24, 25, 26, 27, 28, 29, 30, 31, 32, 33, 34, 35, 36, 37, 38, 39, 40, 41] (by decide +kernel) (by decide +kernel)
set_option maxRecDepth 20000 in
theorem gX1_sails_X10_hasShip : GoodIn wsX1_sails (wsV RX1 44 RX10 yX10_hasShip wsX10_hasShip) := goodIn_app (goodIn_of _ (by decide +kernel)) ggX1_sails_X10_hasShip
theorem dX1_sails_0 : decode cX1_sails 0 = .ok (.aload_n 0, 1) := by decide +kernel
theorem dX1_sails_1 : decode cX1_sails 1 = .ok (.getfield 40, 3) := by decide +kernel
theorem dX1_sails_4 : decode cX1_sails 4 = .ok (.iload_n 1, 1) := by decide +kernel
theorem dX1_sails_5 : decode cX1_sails 5 = .ok (.invokevirtual 44, 3) := by decide +kernel
theorem dX1_sails_8 : decode cX1_sails 8 = .ok (.ifCond .eq 12, 3) := by decide +kernel
theorem dX1_sails_20 : decode cX1_sails 20 = .ok (.iconst 0, 1) := by decide +kernel
theorem dX1_sails_21 : decode cX1_sails 21 = .ok (.ireturn, 1) := by decide +kernel
theorem dX4_has_0 : decode cX4_has 0 = .ok (.iload_n 1, 1) := by decide +kernel
theorem dX4_has_1 : decode cX4_has 1 = .ok (.ifCond .lt 15, 3) := by decide +kernel
theorem dX4_has_4 : decode cX4_has 4 = .ok (.iload_n 1, 1) := by decide +kernel
theorem dX4_has_5 : decode cX4_has 5 = .ok (.aload_n 0, 1) := by decide +kernel
theorem dX4_has_6 : decode cX4_has 6 = .ok (.getfield 25, 3) := by decide +kernel
theorem dX4_has_9 : decode cX4_has 9 = .ok (.if_icmp .ge 7, 3) := by decide +kernel
theorem dX4_has_12 : decode cX4_has 12 = .ok (.iconst 1, 1) := by decide +kernel
theorem dX4_has_13 : decode cX4_has 13 = .ok (.goto 4, 3) := by decide +kernel
theorem dX4_has_16 : decode cX4_has 16 = .ok (.iconst 0, 1) := by decide +kernel
theorem dX4_has_17 : decode cX4_has 17 = .ok (.ireturn, 1) := by decide +kernel
theorem dX10_hasTerminal_0 : decode cX10_hasTerminal 0 = .ok (.iload_n 1, 1) := by decide +kernel
theorem dX10_hasTerminal_1 : decode cX10_hasTerminal 1 = .ok (.ifCond .lt 15, 3) := by decide +kernel
theorem dX10_hasTerminal_4 : decode cX10_hasTerminal 4 = .ok (.iload_n 1, 1) := by decide +kernel
theorem dX10_hasTerminal_5 : decode cX10_hasTerminal 5 = .ok (.aload_n 0, 1) := by decide +kernel
theorem dX10_hasTerminal_6 : decode cX10_hasTerminal 6 = .ok (.getfield 78, 3) := by decide +kernel
theorem dX10_hasTerminal_9 : decode cX10_hasTerminal 9 = .ok (.if_icmp .ge 7, 3) := by decide +kernel
theorem dX10_hasTerminal_12 : decode cX10_hasTerminal 12 = .ok (.iconst 1, 1) := by decide +kernel
theorem dX10_hasTerminal_13 : decode cX10_hasTerminal 13 = .ok (.goto 4, 3) := by decide +kernel
theorem dX10_hasTerminal_16 : decode cX10_hasTerminal 16 = .ok (.iconst 0, 1) := by decide +kernel
theorem dX10_hasTerminal_17 : decode cX10_hasTerminal 17 = .ok (.ireturn, 1) := by decide +kernel
theorem dX10_hasShip_0 : decode cX10_hasShip 0 = .ok (.iload_n 1, 1) := by decide +kernel
theorem dX10_hasShip_1 : decode cX10_hasShip 1 = .ok (.ifCond .lt 15, 3) := by decide +kernel
theorem dX10_hasShip_4 : decode cX10_hasShip 4 = .ok (.iload_n 1, 1) := by decide +kernel
theorem dX10_hasShip_5 : decode cX10_hasShip 5 = .ok (.aload_n 0, 1) := by decide +kernel
theorem dX10_hasShip_6 : decode cX10_hasShip 6 = .ok (.getfield 81, 3) := by decide +kernel
theorem dX10_hasShip_9 : decode cX10_hasShip 9 = .ok (.if_icmp .ge 7, 3) := by decide +kernel
theorem dX10_hasShip_12 : decode cX10_hasShip 12 = .ok (.iconst 1, 1) := by decide +kernel
theorem dX10_hasShip_13 : decode cX10_hasShip 13 = .ok (.goto 4, 3) := by decide +kernel
theorem dX10_hasShip_16 : decode cX10_hasShip 16 = .ok (.iconst 0, 1) := by decide +kernel
theorem dX10_hasShip_17 : decode cX10_hasShip 17 = .ok (.ireturn, 1) := by decide +kernel
set_option maxRecDepth 20000 in
theorem ggX11_ship_X11_within : GoodIn wsX11_ship wsX11_within := goodIn_r _ [6] (by decide +kernel) (by decide +kernel)
set_option maxRecDepth 20000 in
theorem gX11_ship_X11_within : GoodIn wsX11_ship (va_wsS RX11 51 yX11_within wsX11_within) := goodIn_app (goodIn_of _ (by decide +kernel)) ggX11_ship_X11_within
set_option maxRecDepth 20000 in
theorem ggX11_ship_X11_refuse : GoodIn wsX11_ship wsX11_refuse := goodIn_r _ [10, 11, 65, 66, 67, 68, 69, 70, 71] (by decide +kernel) (by decide +kernel)
set_option maxRecDepth 20000 in
theorem gX11_ship_X11_refuse : GoodIn wsX11_ship (wsV RX11 55 RX11 yX11_refuse wsX11_refuse) := goodIn_app (goodIn_of _ (by decide +kernel)) ggX11_ship_X11_refuse
set_option maxRecDepth 20000 in
theorem ggX11_ship_X10_hasTerminal : GoodIn wsX11_ship wsX10_hasTerminal := goodIn_r _ [16, 17, 72, 73, 74, 75, 76, 77, 78, 79, 80, 81, 82, 83, 84, 85, 86, 87, 88, 89, 90] (by decide +kernel) (by decide +kernel)
set_option maxRecDepth 20000 in
theorem gX11_ship_X10_hasTerminal : GoodIn wsX11_ship (wsV RX11 77 RX10 yX10_hasTerminal wsX10_hasTerminal) := goodIn_app (goodIn_of _ (by decide +kernel)) ggX11_ship_X10_hasTerminal
theorem dX11_ship_0 : decode cX11_ship 0 = .ok (.iload_n 2, 1) := by decide +kernel
theorem dX11_ship_1 : decode cX11_ship 1 = .ok (.sipush 1000, 3) := by decide +kernel
theorem dX11_ship_4 : decode cX11_ship 4 = .ok (.ldc 76, 2) := by decide +kernel
theorem dX11_ship_6 : decode cX11_ship 6 = .ok (.invokestatic 51, 3) := by decide +kernel
theorem dX11_ship_9 : decode cX11_ship 9 = .ok (.ifCond .eq 13, 3) := by decide +kernel
theorem dX11_ship_12 : decode cX11_ship 12 = .ok (.iload_n 3, 1) := by decide +kernel
theorem dX11_ship_13 : decode cX11_ship 13 = .ok (.iconst 1, 1) := by decide +kernel
theorem dX11_ship_14 : decode cX11_ship 14 = .ok (.bipush 50, 2) := by decide +kernel
theorem dX11_ship_16 : decode cX11_ship 16 = .ok (.invokestatic 51, 3) := by decide +kernel
theorem dX11_ship_19 : decode cX11_ship 19 = .ok (.ifCond .ne 9, 3) := by decide +kernel
theorem dX11_ship_22 : decode cX11_ship 22 = .ok (.aload_n 0, 1) := by decide +kernel
theorem dX11_ship_23 : decode cX11_ship 23 = .ok (.iconst (-1), 1) := by decide +kernel
theorem dX11_ship_24 : decode cX11_ship 24 = .ok (.invokevirtual 55, 3) := by decide +kernel
theorem dX11_ship_27 : decode cX11_ship 27 = .ok (.ireturn, 1) := by decide +kernel
theorem dX11_ship_28 : decode cX11_ship 28 = .ok (.aload_n 0, 1) := by decide +kernel
theorem dX11_ship_29 : decode cX11_ship 29 = .ok (.getfield 10, 3) := by decide +kernel
theorem dX11_ship_32 : decode cX11_ship 32 = .ok (.iload_n 1, 1) := by decide +kernel
theorem dX11_ship_33 : decode cX11_ship 33 = .ok (.invokevirtual 77, 3) := by decide +kernel
theorem dX11_ship_36 : decode cX11_ship 36 = .ok (.ifCond .ne 10, 3) := by decide +kernel
theorem dX11_ship_39 : decode cX11_ship 39 = .ok (.aload_n 0, 1) := by decide +kernel
theorem dX11_ship_40 : decode cX11_ship 40 = .ok (.bipush (-2), 2) := by decide +kernel
theorem dX11_ship_42 : decode cX11_ship 42 = .ok (.invokevirtual 55, 3) := by decide +kernel
theorem dX11_ship_45 : decode cX11_ship 45 = .ok (.ireturn, 1) := by decide +kernel
set_option maxRecDepth 20000 in
theorem ggX11_way_X11_within : GoodIn wsX11_way wsX11_within := goodIn_r _ [5] (by decide +kernel) (by decide +kernel)
set_option maxRecDepth 20000 in
theorem gX11_way_X11_within : GoodIn wsX11_way (va_wsS RX11 51 yX11_within wsX11_within) := goodIn_app (goodIn_of _ (by decide +kernel)) ggX11_way_X11_within
set_option maxRecDepth 20000 in
theorem ggX11_way_X11_refuse : GoodIn wsX11_way wsX11_refuse := goodIn_r _ [9, 10, 28, 29, 30, 31, 32, 33, 34] (by decide +kernel) (by decide +kernel)
set_option maxRecDepth 20000 in
theorem gX11_way_X11_refuse : GoodIn wsX11_way (wsV RX11 55 RX11 yX11_refuse wsX11_refuse) := goodIn_app (goodIn_of _ (by decide +kernel)) ggX11_way_X11_refuse
set_option maxRecDepth 20000 in
theorem ggX11_way_X10_hasTerminal : GoodIn wsX11_way wsX10_hasTerminal := goodIn_r _ [15, 16, 35, 36, 37, 38, 39, 40, 41, 42, 43, 44, 45, 46, 47, 48, 49, 50, 51, 52, 53] (by decide +kernel) (by decide +kernel)
set_option maxRecDepth 20000 in
theorem gX11_way_X10_hasTerminal : GoodIn wsX11_way (wsV RX11 77 RX10 yX10_hasTerminal wsX10_hasTerminal) := goodIn_app (goodIn_of _ (by decide +kernel)) ggX11_way_X10_hasTerminal
theorem dX11_way_0 : decode cX11_way 0 = .ok (.iload_n 3, 1) := by decide +kernel
theorem dX11_way_1 : decode cX11_way 1 = .ok (.iconst 1, 1) := by decide +kernel
theorem dX11_way_2 : decode cX11_way 2 = .ok (.sipush 400, 3) := by decide +kernel
theorem dX11_way_5 : decode cX11_way 5 = .ok (.invokestatic 51, 3) := by decide +kernel
theorem dX11_way_8 : decode cX11_way 8 = .ok (.ifCond .ne 9, 3) := by decide +kernel
theorem dX11_way_11 : decode cX11_way 11 = .ok (.aload_n 0, 1) := by decide +kernel
theorem dX11_way_12 : decode cX11_way 12 = .ok (.iconst (-1), 1) := by decide +kernel
theorem dX11_way_13 : decode cX11_way 13 = .ok (.invokevirtual 55, 3) := by decide +kernel
theorem dX11_way_16 : decode cX11_way 16 = .ok (.ireturn, 1) := by decide +kernel
theorem dX11_way_17 : decode cX11_way 17 = .ok (.aload_n 0, 1) := by decide +kernel
theorem dX11_way_18 : decode cX11_way 18 = .ok (.getfield 10, 3) := by decide +kernel
theorem dX11_way_21 : decode cX11_way 21 = .ok (.iload_n 1, 1) := by decide +kernel
theorem dX11_way_22 : decode cX11_way 22 = .ok (.invokevirtual 77, 3) := by decide +kernel
theorem dX11_way_25 : decode cX11_way 25 = .ok (.ifCond .eq 14, 3) := by decide +kernel
theorem dX11_way_39 : decode cX11_way 39 = .ok (.aload_n 0, 1) := by decide +kernel
theorem dX11_way_40 : decode cX11_way 40 = .ok (.bipush (-2), 2) := by decide +kernel
theorem dX11_way_42 : decode cX11_way 42 = .ok (.invokevirtual 55, 3) := by decide +kernel
theorem dX11_way_45 : decode cX11_way 45 = .ok (.ireturn, 1) := by decide +kernel
set_option maxRecDepth 20000 in
theorem ggX11_tide_X11_within : GoodIn wsX11_tide wsX11_within := goodIn_r _ [5] (by decide +kernel) (by decide +kernel)
set_option maxRecDepth 20000 in
theorem gX11_tide_X11_within : GoodIn wsX11_tide (va_wsS RX11 51 yX11_within wsX11_within) := goodIn_app (goodIn_of _ (by decide +kernel)) ggX11_tide_X11_within
set_option maxRecDepth 20000 in
theorem ggX11_tide_X11_refuse : GoodIn wsX11_tide wsX11_refuse := goodIn_r _ [9, 10, 15, 16, 17, 18, 19, 20, 21] (by decide +kernel) (by decide +kernel)
set_option maxRecDepth 20000 in
theorem gX11_tide_X11_refuse : GoodIn wsX11_tide (wsV RX11 55 RX11 yX11_refuse wsX11_refuse) := goodIn_app (goodIn_of _ (by decide +kernel)) ggX11_tide_X11_refuse
set_option maxRecDepth 20000 in
theorem ggX11_tide_X11_accept : GoodIn wsX11_tide wsX11_accept := goodIn_r _ [14, 10, 15, 16, 17, 18, 19, 20, 21] (by decide +kernel) (by decide +kernel)
set_option maxRecDepth 20000 in
theorem gX11_tide_X11_accept : GoodIn wsX11_tide (wsV RX11 73 RX11 yX11_accept wsX11_accept) := goodIn_app (goodIn_of _ (by decide +kernel)) ggX11_tide_X11_accept
theorem dX11_tide_0 : decode cX11_tide 0 = .ok (.iload_n 1, 1) := by decide +kernel
theorem dX11_tide_1 : decode cX11_tide 1 = .ok (.iconst 0, 1) := by decide +kernel
theorem dX11_tide_2 : decode cX11_tide 2 = .ok (.bipush 24, 2) := by decide +kernel
theorem dX11_tide_4 : decode cX11_tide 4 = .ok (.invokestatic 51, 3) := by decide +kernel
theorem dX11_tide_7 : decode cX11_tide 7 = .ok (.ifCond .eq 13, 3) := by decide +kernel
theorem dX11_tide_10 : decode cX11_tide 10 = .ok (.iload_n 2, 1) := by decide +kernel
theorem dX11_tide_11 : decode cX11_tide 11 = .ok (.iconst 0, 1) := by decide +kernel
theorem dX11_tide_12 : decode cX11_tide 12 = .ok (.bipush 9, 2) := by decide +kernel
theorem dX11_tide_14 : decode cX11_tide 14 = .ok (.invokestatic 51, 3) := by decide +kernel
theorem dX11_tide_17 : decode cX11_tide 17 = .ok (.ifCond .ne 9, 3) := by decide +kernel
theorem dX11_tide_20 : decode cX11_tide 20 = .ok (.aload_n 0, 1) := by decide +kernel
theorem dX11_tide_21 : decode cX11_tide 21 = .ok (.iconst (-1), 1) := by decide +kernel
theorem dX11_tide_22 : decode cX11_tide 22 = .ok (.invokevirtual 55, 3) := by decide +kernel
theorem dX11_tide_25 : decode cX11_tide 25 = .ok (.ireturn, 1) := by decide +kernel
theorem dX11_tide_26 : decode cX11_tide 26 = .ok (.aload_n 0, 1) := by decide +kernel
theorem dX11_tide_27 : decode cX11_tide 27 = .ok (.getfield 10, 3) := by decide +kernel
theorem dX11_tide_30 : decode cX11_tide 30 = .ok (.getfield 97, 3) := by decide +kernel
theorem dX11_tide_33 : decode cX11_tide 33 = .ok (.iload_n 1, 1) := by decide +kernel
theorem dX11_tide_34 : decode cX11_tide 34 = .ok (.iload_n 2, 1) := by decide +kernel
theorem dX11_tide_35 : decode cX11_tide 35 = .ok (.iastore, 1) := by decide +kernel
theorem dX11_tide_36 : decode cX11_tide 36 = .ok (.aload_n 0, 1) := by decide +kernel
theorem dX11_tide_37 : decode cX11_tide 37 = .ok (.iconst 0, 1) := by decide +kernel
theorem dX11_tide_38 : decode cX11_tide 38 = .ok (.invokevirtual 73, 3) := by decide +kernel
theorem dX11_tide_41 : decode cX11_tide 41 = .ok (.ireturn, 1) := by decide +kernel
set_option maxRecDepth 20000 in
theorem ggX11_sea_X11_within : GoodIn wsX11_sea wsX11_within := goodIn_r _ [5] (by decide +kernel) (by decide +kernel)
set_option maxRecDepth 20000 in
theorem gX11_sea_X11_within : GoodIn wsX11_sea (va_wsS RX11 51 yX11_within wsX11_within) := goodIn_app (goodIn_of _ (by decide +kernel)) ggX11_sea_X11_within
set_option maxRecDepth 20000 in
theorem ggX11_sea_X11_refuse : GoodIn wsX11_sea wsX11_refuse := goodIn_r _ [9, 10, 15, 16, 17, 18, 19, 20, 21] (by decide +kernel) (by decide +kernel)
set_option maxRecDepth 20000 in
theorem gX11_sea_X11_refuse : GoodIn wsX11_sea (wsV RX11 55 RX11 yX11_refuse wsX11_refuse) := goodIn_app (goodIn_of _ (by decide +kernel)) ggX11_sea_X11_refuse
set_option maxRecDepth 20000 in
theorem ggX11_sea_X11_accept : GoodIn wsX11_sea wsX11_accept := goodIn_r _ [14, 10, 15, 16, 17, 18, 19, 20, 21] (by decide +kernel) (by decide +kernel)
set_option maxRecDepth 20000 in
theorem gX11_sea_X11_accept : GoodIn wsX11_sea (wsV RX11 73 RX11 yX11_accept wsX11_accept) := goodIn_app (goodIn_of _ (by decide +kernel)) ggX11_sea_X11_accept
theorem dX11_sea_0 : decode cX11_sea 0 = .ok (.iload_n 1, 1) := by decide +kernel
theorem dX11_sea_1 : decode cX11_sea 1 = .ok (.iconst 0, 1) := by decide +kernel
theorem dX11_sea_2 : decode cX11_sea 2 = .ok (.bipush 99, 2) := by decide +kernel
theorem dX11_sea_4 : decode cX11_sea 4 = .ok (.invokestatic 51, 3) := by decide +kernel
theorem dX11_sea_7 : decode cX11_sea 7 = .ok (.ifCond .eq 13, 3) := by decide +kernel
theorem dX11_sea_10 : decode cX11_sea 10 = .ok (.iload_n 2, 1) := by decide +kernel
theorem dX11_sea_11 : decode cX11_sea 11 = .ok (.iconst 0, 1) := by decide +kernel
theorem dX11_sea_12 : decode cX11_sea 12 = .ok (.bipush 9, 2) := by decide +kernel
theorem dX11_sea_14 : decode cX11_sea 14 = .ok (.invokestatic 51, 3) := by decide +kernel
theorem dX11_sea_17 : decode cX11_sea 17 = .ok (.ifCond .ne 9, 3) := by decide +kernel
theorem dX11_sea_20 : decode cX11_sea 20 = .ok (.aload_n 0, 1) := by decide +kernel
theorem dX11_sea_21 : decode cX11_sea 21 = .ok (.iconst (-1), 1) := by decide +kernel
theorem dX11_sea_22 : decode cX11_sea 22 = .ok (.invokevirtual 55, 3) := by decide +kernel
theorem dX11_sea_25 : decode cX11_sea 25 = .ok (.ireturn, 1) := by decide +kernel
theorem dX11_sea_26 : decode cX11_sea 26 = .ok (.aload_n 0, 1) := by decide +kernel
theorem dX11_sea_27 : decode cX11_sea 27 = .ok (.getfield 10, 3) := by decide +kernel
theorem dX11_sea_30 : decode cX11_sea 30 = .ok (.getfield 101, 3) := by decide +kernel
theorem dX11_sea_33 : decode cX11_sea 33 = .ok (.iload_n 1, 1) := by decide +kernel
theorem dX11_sea_34 : decode cX11_sea 34 = .ok (.iload_n 2, 1) := by decide +kernel
theorem dX11_sea_35 : decode cX11_sea 35 = .ok (.iastore, 1) := by decide +kernel
theorem dX11_sea_36 : decode cX11_sea 36 = .ok (.aload_n 0, 1) := by decide +kernel
theorem dX11_sea_37 : decode cX11_sea 37 = .ok (.iconst 0, 1) := by decide +kernel
theorem dX11_sea_38 : decode cX11_sea 38 = .ok (.invokevirtual 73, 3) := by decide +kernel
theorem dX11_sea_41 : decode cX11_sea 41 = .ok (.ireturn, 1) := by decide +kernel
set_option maxRecDepth 20000 in
theorem ggX11_slot_X11_isSpan : GoodIn wsX11_slot wsX11_isSpan := goodIn_r _ [5, 6, 7, 4, 8, 9, 10, 11] (by decide +kernel) (by decide +kernel)
set_option maxRecDepth 20000 in
theorem gX11_slot_X11_isSpan : GoodIn wsX11_slot (va_wsS RX11 104 yX11_isSpan wsX11_isSpan) := goodIn_app (goodIn_of _ (by decide +kernel)) ggX11_slot_X11_isSpan
set_option maxRecDepth 20000 in
theorem ggX11_slot_X11_refuse : GoodIn wsX11_slot wsX11_refuse := goodIn_r _ [15, 16, 52, 53, 54, 55, 56, 57, 58] (by decide +kernel) (by decide +kernel)
set_option maxRecDepth 20000 in
theorem gX11_slot_X11_refuse : GoodIn wsX11_slot (wsV RX11 55 RX11 yX11_refuse wsX11_refuse) := goodIn_app (goodIn_of _ (by decide +kernel)) ggX11_slot_X11_refuse
set_option maxRecDepth 20000 in
theorem ggX11_slot_X10_hasTerminal : GoodIn wsX11_slot wsX10_hasTerminal := goodIn_r _ [21, 22, 59, 60, 61, 62, 63, 64, 65, 66, 67, 68, 69, 70, 71, 72, 73, 74, 75, 76, 77] (by decide +kernel) (by decide +kernel)
set_option maxRecDepth 20000 in
theorem gX11_slot_X10_hasTerminal : GoodIn wsX11_slot (wsV RX11 77 RX10 yX10_hasTerminal wsX10_hasTerminal) := goodIn_app (goodIn_of _ (by decide +kernel)) ggX11_slot_X10_hasTerminal
theorem dX11_slot_0 : decode cX11_slot 0 = .ok (.iload_n 3, 1) := by decide +kernel
theorem dX11_slot_1 : decode cX11_slot 1 = .ok (.iload 4, 2) := by decide +kernel
theorem dX11_slot_3 : decode cX11_slot 3 = .ok (.invokestatic 104, 3) := by decide +kernel
theorem dX11_slot_6 : decode cX11_slot 6 = .ok (.ifCond .ne 9, 3) := by decide +kernel
theorem dX11_slot_9 : decode cX11_slot 9 = .ok (.aload_n 0, 1) := by decide +kernel
theorem dX11_slot_10 : decode cX11_slot 10 = .ok (.iconst (-1), 1) := by decide +kernel
theorem dX11_slot_11 : decode cX11_slot 11 = .ok (.invokevirtual 55, 3) := by decide +kernel
theorem dX11_slot_14 : decode cX11_slot 14 = .ok (.ireturn, 1) := by decide +kernel
theorem dX11_slot_15 : decode cX11_slot 15 = .ok (.aload_n 0, 1) := by decide +kernel
theorem dX11_slot_16 : decode cX11_slot 16 = .ok (.getfield 10, 3) := by decide +kernel
theorem dX11_slot_19 : decode cX11_slot 19 = .ok (.iload_n 1, 1) := by decide +kernel
theorem dX11_slot_20 : decode cX11_slot 20 = .ok (.invokevirtual 77, 3) := by decide +kernel
theorem dX11_slot_23 : decode cX11_slot 23 = .ok (.ifCond .eq 14, 3) := by decide +kernel
theorem dX11_slot_37 : decode cX11_slot 37 = .ok (.aload_n 0, 1) := by decide +kernel
theorem dX11_slot_38 : decode cX11_slot 38 = .ok (.bipush (-2), 2) := by decide +kernel
theorem dX11_slot_40 : decode cX11_slot 40 = .ok (.invokevirtual 55, 3) := by decide +kernel
theorem dX11_slot_43 : decode cX11_slot 43 = .ok (.ireturn, 1) := by decide +kernel
set_option maxRecDepth 20000 in
theorem ggX11_broken_X11_isSpan : GoodIn wsX11_broken wsX11_isSpan := goodIn_r _ [5, 6, 7, 4, 8, 9, 10, 11] (by decide +kernel) (by decide +kernel)
set_option maxRecDepth 20000 in
theorem gX11_broken_X11_isSpan : GoodIn wsX11_broken (va_wsS RX11 104 yX11_isSpan wsX11_isSpan) := goodIn_app (goodIn_of _ (by decide +kernel)) ggX11_broken_X11_isSpan
set_option maxRecDepth 20000 in
theorem ggX11_broken_X11_refuse : GoodIn wsX11_broken wsX11_refuse := goodIn_r _ [15, 16, 40, 41, 42, 43, 44, 45, 46] (by decide +kernel) (by decide +kernel)
set_option maxRecDepth 20000 in
theorem gX11_broken_X11_refuse : GoodIn wsX11_broken (wsV RX11 55 RX11 yX11_refuse wsX11_refuse) := goodIn_app (goodIn_of _ (by decide +kernel)) ggX11_broken_X11_refuse
set_option maxRecDepth 20000 in
theorem ggX11_broken_X10_hasTerminal : GoodIn wsX11_broken wsX10_hasTerminal := goodIn_r _ [21, 22, 47, 48, 49, 50, 51, 52, 53, 54, 55, 56, 57, 58, 59, 60, 61, 62, 63, 64, 65] (by decide +kernel) (by decide +kernel)
set_option maxRecDepth 20000 in
theorem gX11_broken_X10_hasTerminal : GoodIn wsX11_broken (wsV RX11 77 RX10 yX10_hasTerminal wsX10_hasTerminal) := goodIn_app (goodIn_of _ (by decide +kernel)) ggX11_broken_X10_hasTerminal
theorem dX11_broken_0 : decode cX11_broken 0 = .ok (.iload_n 2, 1) := by decide +kernel
theorem dX11_broken_1 : decode cX11_broken 1 = .ok (.iload_n 3, 1) := by decide +kernel
theorem dX11_broken_2 : decode cX11_broken 2 = .ok (.invokestatic 104, 3) := by decide +kernel
theorem dX11_broken_5 : decode cX11_broken 5 = .ok (.ifCond .ne 9, 3) := by decide +kernel
theorem dX11_broken_8 : decode cX11_broken 8 = .ok (.aload_n 0, 1) := by decide +kernel
theorem dX11_broken_9 : decode cX11_broken 9 = .ok (.iconst (-1), 1) := by decide +kernel
theorem dX11_broken_10 : decode cX11_broken 10 = .ok (.invokevirtual 55, 3) := by decide +kernel
theorem dX11_broken_13 : decode cX11_broken 13 = .ok (.ireturn, 1) := by decide +kernel
theorem dX11_broken_14 : decode cX11_broken 14 = .ok (.aload_n 0, 1) := by decide +kernel
theorem dX11_broken_15 : decode cX11_broken 15 = .ok (.getfield 10, 3) := by decide +kernel
theorem dX11_broken_18 : decode cX11_broken 18 = .ok (.iload_n 1, 1) := by decide +kernel
theorem dX11_broken_19 : decode cX11_broken 19 = .ok (.invokevirtual 77, 3) := by decide +kernel
theorem dX11_broken_22 : decode cX11_broken 22 = .ok (.ifCond .ne 10, 3) := by decide +kernel
theorem dX11_broken_25 : decode cX11_broken 25 = .ok (.aload_n 0, 1) := by decide +kernel
theorem dX11_broken_26 : decode cX11_broken 26 = .ok (.bipush (-2), 2) := by decide +kernel
theorem dX11_broken_28 : decode cX11_broken 28 = .ok (.invokevirtual 55, 3) := by decide +kernel
theorem dX11_broken_31 : decode cX11_broken 31 = .ok (.ireturn, 1) := by decide +kernel
set_option maxRecDepth 20000 in
theorem ggX11_terms_X11_within : GoodIn wsX11_terms wsX11_within := goodIn_r _ [5] (by decide +kernel) (by decide +kernel)
set_option maxRecDepth 20000 in
theorem gX11_terms_X11_within : GoodIn wsX11_terms (va_wsS RX11 51 yX11_within wsX11_within) := goodIn_app (goodIn_of _ (by decide +kernel)) ggX11_terms_X11_within
set_option maxRecDepth 20000 in
theorem ggX11_terms_X11_refuse : GoodIn wsX11_terms wsX11_refuse := goodIn_r _ [9, 10, 15, 16, 17, 18, 19, 20, 21] (by decide +kernel) (by decide +kernel)
set_option maxRecDepth 20000 in
theorem gX11_terms_X11_refuse : GoodIn wsX11_terms (wsV RX11 55 RX11 yX11_refuse wsX11_refuse) := goodIn_app (goodIn_of _ (by decide +kernel)) ggX11_terms_X11_refuse
set_option maxRecDepth 20000 in
theorem ggX11_terms_X11_accept : GoodIn wsX11_terms wsX11_accept := goodIn_r _ [14, 10, 15, 16, 17, 18, 19, 20, 21] (by decide +kernel) (by decide +kernel)
set_option maxRecDepth 20000 in
theorem gX11_terms_X11_accept : GoodIn wsX11_terms (wsV RX11 73 RX11 yX11_accept wsX11_accept) := goodIn_app (goodIn_of _ (by decide +kernel)) ggX11_terms_X11_accept
theorem dX11_terms_0 : decode cX11_terms 0 = .ok (.iload_n 1, 1) := by decide +kernel
theorem dX11_terms_1 : decode cX11_terms 1 = .ok (.iconst 0, 1) := by decide +kernel
theorem dX11_terms_2 : decode cX11_terms 2 = .ok (.bipush 100, 2) := by decide +kernel
theorem dX11_terms_4 : decode cX11_terms 4 = .ok (.invokestatic 51, 3) := by decide +kernel
theorem dX11_terms_7 : decode cX11_terms 7 = .ok (.ifCond .eq 14, 3) := by decide +kernel
theorem dX11_terms_10 : decode cX11_terms 10 = .ok (.iload_n 2, 1) := by decide +kernel
theorem dX11_terms_11 : decode cX11_terms 11 = .ok (.iconst 1, 1) := by decide +kernel
theorem dX11_terms_12 : decode cX11_terms 12 = .ok (.sipush 1000, 3) := by decide +kernel
theorem dX11_terms_15 : decode cX11_terms 15 = .ok (.invokestatic 51, 3) := by decide +kernel
theorem dX11_terms_18 : decode cX11_terms 18 = .ok (.ifCond .ne 9, 3) := by decide +kernel
theorem dX11_terms_21 : decode cX11_terms 21 = .ok (.aload_n 0, 1) := by decide +kernel
theorem dX11_terms_22 : decode cX11_terms 22 = .ok (.iconst (-1), 1) := by decide +kernel
theorem dX11_terms_23 : decode cX11_terms 23 = .ok (.invokevirtual 55, 3) := by decide +kernel
theorem dX11_terms_26 : decode cX11_terms 26 = .ok (.ireturn, 1) := by decide +kernel
theorem dX11_terms_27 : decode cX11_terms 27 = .ok (.aload_n 0, 1) := by decide +kernel
theorem dX11_terms_28 : decode cX11_terms 28 = .ok (.getfield 10, 3) := by decide +kernel
theorem dX11_terms_31 : decode cX11_terms 31 = .ok (.iload_n 1, 1) := by decide +kernel
theorem dX11_terms_32 : decode cX11_terms 32 = .ok (.putfield 135, 3) := by decide +kernel
theorem dX11_terms_35 : decode cX11_terms 35 = .ok (.aload_n 0, 1) := by decide +kernel
theorem dX11_terms_36 : decode cX11_terms 36 = .ok (.getfield 10, 3) := by decide +kernel
theorem dX11_terms_39 : decode cX11_terms 39 = .ok (.iload_n 2, 1) := by decide +kernel
theorem dX11_terms_40 : decode cX11_terms 40 = .ok (.putfield 138, 3) := by decide +kernel
theorem dX11_terms_43 : decode cX11_terms 43 = .ok (.aload_n 0, 1) := by decide +kernel
theorem dX11_terms_44 : decode cX11_terms 44 = .ok (.iconst 0, 1) := by decide +kernel
theorem dX11_terms_45 : decode cX11_terms 45 = .ok (.invokevirtual 73, 3) := by decide +kernel
theorem dX11_terms_48 : decode cX11_terms 48 = .ok (.ireturn, 1) := by decide +kernel
set_option maxRecDepth 20000 in
theorem ggX11_order_X11_isOrder : GoodIn wsX11_order wsX11_isOrder := goodIn_r _ [5, 6, 7, 8, 4, 9, 10, 11, 12] (by decide +kernel) (by decide +kernel)
set_option maxRecDepth 20000 in
theorem gX11_order_X11_isOrder : GoodIn wsX11_order (va_wsS RX11 141 yX11_isOrder wsX11_isOrder) := goodIn_app (goodIn_of _ (by decide +kernel)) ggX11_order_X11_isOrder
set_option maxRecDepth 20000 in
theorem ggX11_order_X11_refuse : GoodIn wsX11_order wsX11_refuse := goodIn_r _ [16, 17, 41, 42, 43, 44, 45, 46, 47] (by decide +kernel) (by decide +kernel)
set_option maxRecDepth 20000 in
theorem gX11_order_X11_refuse : GoodIn wsX11_order (wsV RX11 55 RX11 yX11_refuse wsX11_refuse) := goodIn_app (goodIn_of _ (by decide +kernel)) ggX11_order_X11_refuse
set_option maxRecDepth 20000 in
theorem ggX11_order_X10_hasShip : GoodIn wsX11_order wsX10_hasShip := goodIn_r _ [22, 23, 48, 49, 50, 51, 52, 53, 54, 55, 56, 57, 58, 59, 60, 61, 62, 63, 64, 65, 66] (by decide +kernel) (by decide +kernel)
set_option maxRecDepth 20000 in
theorem gX11_order_X10_hasShip : GoodIn wsX11_order (wsV RX11 108 RX10 yX10_hasShip wsX10_hasShip) := goodIn_app (goodIn_of _ (by decide +kernel)) ggX11_order_X10_hasShip
theorem dX11_order_0 : decode cX11_order 0 = .ok (.iload_n 2, 1) := by decide +kernel
theorem dX11_order_1 : decode cX11_order 1 = .ok (.iload_n 3, 1) := by decide +kernel
theorem dX11_order_2 : decode cX11_order 2 = .ok (.invokestatic 141, 3) := by decide +kernel
theorem dX11_order_5 : decode cX11_order 5 = .ok (.ifCond .ne 9, 3) := by decide +kernel
theorem dX11_order_8 : decode cX11_order 8 = .ok (.aload_n 0, 1) := by decide +kernel
theorem dX11_order_9 : decode cX11_order 9 = .ok (.iconst (-1), 1) := by decide +kernel
theorem dX11_order_10 : decode cX11_order 10 = .ok (.invokevirtual 55, 3) := by decide +kernel
theorem dX11_order_13 : decode cX11_order 13 = .ok (.ireturn, 1) := by decide +kernel
theorem dX11_order_14 : decode cX11_order 14 = .ok (.aload_n 0, 1) := by decide +kernel
theorem dX11_order_15 : decode cX11_order 15 = .ok (.getfield 10, 3) := by decide +kernel
theorem dX11_order_18 : decode cX11_order 18 = .ok (.iload_n 1, 1) := by decide +kernel
theorem dX11_order_19 : decode cX11_order 19 = .ok (.invokevirtual 108, 3) := by decide +kernel
theorem dX11_order_22 : decode cX11_order 22 = .ok (.ifCond .eq 18, 3) := by decide +kernel
theorem dX11_order_40 : decode cX11_order 40 = .ok (.aload_n 0, 1) := by decide +kernel
theorem dX11_order_41 : decode cX11_order 41 = .ok (.bipush (-2), 2) := by decide +kernel
theorem dX11_order_43 : decode cX11_order 43 = .ok (.invokevirtual 55, 3) := by decide +kernel
theorem dX11_order_46 : decode cX11_order 46 = .ok (.ireturn, 1) := by decide +kernel
set_option maxRecDepth 20000 in
theorem ggX11_of_X10_hasShip : GoodIn wsX11_of wsX10_hasShip := goodIn_r _ [6, 7, 44, 45, 46, 47, 48, 49, 50, 51, 52, 53, 54, 55, 56, 57, 58, 59, 60, 61, 62] (by decide +kernel) (by decide +kernel)
set_option maxRecDepth 20000 in
theorem gX11_of_X10_hasShip : GoodIn wsX11_of (wsV RX11 108 RX10 yX10_hasShip wsX10_hasShip) := goodIn_app (goodIn_of _ (by decide +kernel)) ggX11_of_X10_hasShip
theorem dX11_of_0 : decode cX11_of 0 = .ok (.aload_n 0, 1) := by decide +kernel
theorem dX11_of_1 : decode cX11_of 1 = .ok (.getfield 10, 3) := by decide +kernel
theorem dX11_of_4 : decode cX11_of 4 = .ok (.iload_n 1, 1) := by decide +kernel
theorem dX11_of_5 : decode cX11_of 5 = .ok (.invokevirtual 108, 3) := by decide +kernel
theorem dX11_of_8 : decode cX11_of 8 = .ok (.ifCond .ne 5, 3) := by decide +kernel
theorem dX11_of_11 : decode cX11_of 11 = .ok (.iconst (-1), 1) := by decide +kernel
theorem dX11_of_12 : decode cX11_of 12 = .ok (.ireturn, 1) := by decide +kernel
set_option maxRecDepth 20000 in
theorem ggX11_part_X10_hasShip : GoodIn wsX11_part wsX10_hasShip := goodIn_r _ [6, 7, 20, 21, 22, 23, 24, 25, 26, 27, 28, 29, 30, 31, 32, 33, 34, 35, 36, 37, 38] (by decide +kernel) (by decide +kernel)
set_option maxRecDepth 20000 in
theorem gX11_part_X10_hasShip : GoodIn wsX11_part (wsV RX11 108 RX10 yX10_hasShip wsX10_hasShip) := goodIn_app (goodIn_of _ (by decide +kernel)) ggX11_part_X10_hasShip
theorem dX11_part_0 : decode cX11_part 0 = .ok (.aload_n 0, 1) := by decide +kernel
theorem dX11_part_1 : decode cX11_part 1 = .ok (.getfield 10, 3) := by decide +kernel
theorem dX11_part_4 : decode cX11_part 4 = .ok (.iload_n 1, 1) := by decide +kernel
theorem dX11_part_5 : decode cX11_part 5 = .ok (.invokevirtual 108, 3) := by decide +kernel
theorem dX11_part_8 : decode cX11_part 8 = .ok (.ifCond .eq 14, 3) := by decide +kernel
theorem dX11_part_22 : decode cX11_part 22 = .ok (.iconst (-1), 1) := by decide +kernel
theorem dX11_part_23 : decode cX11_part 23 = .ok (.ireturn, 1) := by decide +kernel
set_option maxRecDepth 20000 in
theorem ggX11_book_X10_hasShip : GoodIn wsX11_book wsX10_hasShip := goodIn_r _ [7, 8, 20, 21, 22, 23, 24, 25, 26, 27, 28, 29, 30, 31, 32, 33, 34, 35, 36, 37, 38] (by decide +kernel) (by decide +kernel)
set_option maxRecDepth 20000 in
theorem gX11_book_X10_hasShip : GoodIn wsX11_book (wsV RX11 108 RX10 yX10_hasShip wsX10_hasShip) := goodIn_app (goodIn_of _ (by decide +kernel)) ggX11_book_X10_hasShip
theorem dX11_book_0 : decode cX11_book 0 = .ok (.aload_n 0, 1) := by decide +kernel
theorem dX11_book_1 : decode cX11_book 1 = .ok (.getfield 10, 3) := by decide +kernel
theorem dX11_book_4 : decode cX11_book 4 = .ok (.iload_n 1, 1) := by decide +kernel
theorem dX11_book_5 : decode cX11_book 5 = .ok (.invokevirtual 108, 3) := by decide +kernel
theorem dX11_book_8 : decode cX11_book 8 = .ok (.ifCond .eq 12, 3) := by decide +kernel
theorem dX11_book_20 : decode cX11_book 20 = .ok (.ldc2_w 198, 3) := by decide +kernel
theorem dX11_book_23 : decode cX11_book 23 = .ok (.lreturn, 1) := by decide +kernel
set_option maxRecDepth 20000 in
theorem ggX11_store_X10_hasTerminal : GoodIn wsX11_store wsX10_hasTerminal := goodIn_r _ [6, 7, 15, 16, 17, 18, 19, 20, 21, 22, 23, 24, 25, 26, 27, 28, 29, 30, 31, 32, 33] (by decide +kernel) (by decide +kernel)
set_option maxRecDepth 20000 in
theorem gX11_store_X10_hasTerminal : GoodIn wsX11_store (wsV RX11 77 RX10 yX10_hasTerminal wsX10_hasTerminal) := goodIn_app (goodIn_of _ (by decide +kernel)) ggX11_store_X10_hasTerminal
theorem dX11_store_0 : decode cX11_store 0 = .ok (.aload_n 0, 1) := by decide +kernel
theorem dX11_store_1 : decode cX11_store 1 = .ok (.getfield 10, 3) := by decide +kernel
theorem dX11_store_4 : decode cX11_store 4 = .ok (.iload_n 1, 1) := by decide +kernel
theorem dX11_store_5 : decode cX11_store 5 = .ok (.invokevirtual 77, 3) := by decide +kernel
theorem dX11_store_8 : decode cX11_store 8 = .ok (.ifCond .eq 18, 3) := by decide +kernel
theorem dX11_store_26 : decode cX11_store 26 = .ok (.iconst (-1), 1) := by decide +kernel
theorem dX11_store_27 : decode cX11_store 27 = .ok (.ireturn, 1) := by decide +kernel
set_option maxRecDepth 20000 in
theorem ggX11_landing_X4_has : GoodIn wsX11_landing wsX4_has := goodIn_r _ [6, 7, 57, 58, 59] (by decide +kernel) (by decide +kernel)
set_option maxRecDepth 20000 in
theorem gX11_landing_X4_has : GoodIn wsX11_landing (wsV RX11 211 RX4 yX4_has wsX4_has) := goodIn_app (goodIn_of _ (by decide +kernel)) ggX11_landing_X4_has
theorem dX11_landing_0 : decode cX11_landing 0 = .ok (.aload_n 0, 1) := by decide +kernel
theorem dX11_landing_1 : decode cX11_landing 1 = .ok (.getfield 10, 3) := by decide +kernel
theorem dX11_landing_4 : decode cX11_landing 4 = .ok (.getfield 207, 3) := by decide +kernel
theorem dX11_landing_7 : decode cX11_landing 7 = .ok (.iload_n 1, 1) := by decide +kernel
theorem dX11_landing_8 : decode cX11_landing 8 = .ok (.invokevirtual 211, 3) := by decide +kernel
theorem dX11_landing_11 : decode cX11_landing 11 = .ok (.ifCond .ne 5, 3) := by decide +kernel
theorem dX11_landing_14 : decode cX11_landing 14 = .ok (.iconst (-1), 1) := by decide +kernel
theorem dX11_landing_15 : decode cX11_landing 15 = .ok (.ireturn, 1) := by decide +kernel
set_option maxRecDepth 20000 in
theorem ggX11_led_X4_has : GoodIn wsX11_led wsX4_has := goodIn_r _ [6, 7, 50, 51, 52] (by decide +kernel) (by decide +kernel)
set_option maxRecDepth 20000 in
theorem gX11_led_X4_has : GoodIn wsX11_led (wsV RX11 211 RX4 yX4_has wsX4_has) := goodIn_app (goodIn_of _ (by decide +kernel)) ggX11_led_X4_has
theorem dX11_led_0 : decode cX11_led 0 = .ok (.aload_n 0, 1) := by decide +kernel
theorem dX11_led_1 : decode cX11_led 1 = .ok (.getfield 10, 3) := by decide +kernel
theorem dX11_led_4 : decode cX11_led 4 = .ok (.getfield 207, 3) := by decide +kernel
theorem dX11_led_7 : decode cX11_led 7 = .ok (.iload_n 1, 1) := by decide +kernel
theorem dX11_led_8 : decode cX11_led 8 = .ok (.invokevirtual 211, 3) := by decide +kernel
theorem dX11_led_11 : decode cX11_led 11 = .ok (.ifCond .eq 14, 3) := by decide +kernel
theorem dX11_led_25 : decode cX11_led 25 = .ok (.iconst (-1), 1) := by decide +kernel
theorem dX11_led_26 : decode cX11_led 26 = .ok (.ireturn, 1) := by decide +kernel
set_option maxRecDepth 20000 in
theorem ggX11_heat_X11_within : GoodIn wsX11_heat wsX11_within := goodIn_r _ [5] (by decide +kernel) (by decide +kernel)
set_option maxRecDepth 20000 in
theorem gX11_heat_X11_within : GoodIn wsX11_heat (va_wsS RX11 51 yX11_within wsX11_within) := goodIn_app (goodIn_of _ (by decide +kernel)) ggX11_heat_X11_within
set_option maxRecDepth 20000 in
theorem ggX11_heat_X11_refuse : GoodIn wsX11_heat wsX11_refuse := goodIn_r _ [9, 10, 21, 22, 23, 24, 25, 26, 27] (by decide +kernel) (by decide +kernel)
set_option maxRecDepth 20000 in
theorem gX11_heat_X11_refuse : GoodIn wsX11_heat (wsV RX11 55 RX11 yX11_refuse wsX11_refuse) := goodIn_app (goodIn_of _ (by decide +kernel)) ggX11_heat_X11_refuse
set_option maxRecDepth 20000 in
theorem ggX11_heat_X10_hasTerminal : GoodIn wsX11_heat wsX10_hasTerminal := goodIn_r _ [15, 16, 28, 29, 30, 31, 32, 33, 34, 35, 36, 37, 38, 39, 40, 41, 42, 43, 44, 45, 46] (by decide +kernel) (by decide +kernel)
set_option maxRecDepth 20000 in
theorem gX11_heat_X10_hasTerminal : GoodIn wsX11_heat (wsV RX11 77 RX10 yX10_hasTerminal wsX10_hasTerminal) := goodIn_app (goodIn_of _ (by decide +kernel)) ggX11_heat_X10_hasTerminal
theorem dX11_heat_0 : decode cX11_heat 0 = .ok (.iload_n 2, 1) := by decide +kernel
theorem dX11_heat_1 : decode cX11_heat 1 = .ok (.sipush 500, 3) := by decide +kernel
theorem dX11_heat_4 : decode cX11_heat 4 = .ok (.sipush 2000, 3) := by decide +kernel
theorem dX11_heat_7 : decode cX11_heat 7 = .ok (.invokestatic 51, 3) := by decide +kernel
theorem dX11_heat_10 : decode cX11_heat 10 = .ok (.ifCond .ne 9, 3) := by decide +kernel
theorem dX11_heat_13 : decode cX11_heat 13 = .ok (.aload_n 0, 1) := by decide +kernel
theorem dX11_heat_14 : decode cX11_heat 14 = .ok (.iconst (-1), 1) := by decide +kernel
theorem dX11_heat_15 : decode cX11_heat 15 = .ok (.invokevirtual 55, 3) := by decide +kernel
theorem dX11_heat_18 : decode cX11_heat 18 = .ok (.ireturn, 1) := by decide +kernel
theorem dX11_heat_19 : decode cX11_heat 19 = .ok (.aload_n 0, 1) := by decide +kernel
theorem dX11_heat_20 : decode cX11_heat 20 = .ok (.getfield 10, 3) := by decide +kernel
theorem dX11_heat_23 : decode cX11_heat 23 = .ok (.iload_n 1, 1) := by decide +kernel
theorem dX11_heat_24 : decode cX11_heat 24 = .ok (.invokevirtual 77, 3) := by decide +kernel
theorem dX11_heat_27 : decode cX11_heat 27 = .ok (.ifCond .ne 10, 3) := by decide +kernel
theorem dX11_heat_30 : decode cX11_heat 30 = .ok (.aload_n 0, 1) := by decide +kernel
theorem dX11_heat_31 : decode cX11_heat 31 = .ok (.bipush (-2), 2) := by decide +kernel
theorem dX11_heat_33 : decode cX11_heat 33 = .ok (.invokevirtual 55, 3) := by decide +kernel
theorem dX11_heat_36 : decode cX11_heat 36 = .ok (.ireturn, 1) := by decide +kernel
set_option maxRecDepth 20000 in
theorem ggX11_bill_X11_within : GoodIn wsX11_bill wsX11_within := goodIn_r _ [7] (by decide +kernel) (by decide +kernel)
set_option maxRecDepth 20000 in
theorem gX11_bill_X11_within : GoodIn wsX11_bill (va_wsS RX11 51 yX11_within wsX11_within) := goodIn_app (goodIn_of _ (by decide +kernel)) ggX11_bill_X11_within
set_option maxRecDepth 20000 in
theorem ggX11_bill_X11_refuse : GoodIn wsX11_bill wsX11_refuse := goodIn_r _ [11, 12, 34, 35, 36, 37, 38, 39, 40] (by decide +kernel) (by decide +kernel)
set_option maxRecDepth 20000 in
theorem gX11_bill_X11_refuse : GoodIn wsX11_bill (wsV RX11 55 RX11 yX11_refuse wsX11_refuse) := goodIn_app (goodIn_of _ (by decide +kernel)) ggX11_bill_X11_refuse
set_option maxRecDepth 20000 in
theorem ggX11_bill_X4_has : GoodIn wsX11_bill wsX4_has := goodIn_r _ [17, 18, 60, 61, 62] (by decide +kernel) (by decide +kernel)
set_option maxRecDepth 20000 in
theorem gX11_bill_X4_has : GoodIn wsX11_bill (wsV RX11 211 RX4 yX4_has wsX4_has) := goodIn_app (goodIn_of _ (by decide +kernel)) ggX11_bill_X4_has
theorem dX11_bill_0 : decode cX11_bill 0 = .ok (.iload_n 2, 1) := by decide +kernel
theorem dX11_bill_1 : decode cX11_bill 1 = .ok (.iconst 0, 1) := by decide +kernel
theorem dX11_bill_2 : decode cX11_bill 2 = .ok (.ldc 76, 2) := by decide +kernel
theorem dX11_bill_4 : decode cX11_bill 4 = .ok (.invokestatic 51, 3) := by decide +kernel
theorem dX11_bill_7 : decode cX11_bill 7 = .ok (.ifCond .ne 9, 3) := by decide +kernel
theorem dX11_bill_10 : decode cX11_bill 10 = .ok (.aload_n 0, 1) := by decide +kernel
theorem dX11_bill_11 : decode cX11_bill 11 = .ok (.iconst (-1), 1) := by decide +kernel
theorem dX11_bill_12 : decode cX11_bill 12 = .ok (.invokevirtual 55, 3) := by decide +kernel
theorem dX11_bill_15 : decode cX11_bill 15 = .ok (.ireturn, 1) := by decide +kernel
theorem dX11_bill_16 : decode cX11_bill 16 = .ok (.aload_n 0, 1) := by decide +kernel
theorem dX11_bill_17 : decode cX11_bill 17 = .ok (.getfield 10, 3) := by decide +kernel
theorem dX11_bill_20 : decode cX11_bill 20 = .ok (.getfield 207, 3) := by decide +kernel
theorem dX11_bill_23 : decode cX11_bill 23 = .ok (.iload_n 1, 1) := by decide +kernel
theorem dX11_bill_24 : decode cX11_bill 24 = .ok (.invokevirtual 211, 3) := by decide +kernel
theorem dX11_bill_27 : decode cX11_bill 27 = .ok (.ifCond .ne 10, 3) := by decide +kernel
theorem dX11_bill_30 : decode cX11_bill 30 = .ok (.aload_n 0, 1) := by decide +kernel
theorem dX11_bill_31 : decode cX11_bill 31 = .ok (.bipush (-2), 2) := by decide +kernel
theorem dX11_bill_33 : decode cX11_bill 33 = .ok (.invokevirtual 55, 3) := by decide +kernel
theorem dX11_bill_36 : decode cX11_bill 36 = .ok (.ireturn, 1) := by decide +kernel
set_option maxRecDepth 20000 in
theorem ggX11_end_X11_within : GoodIn wsX11_end wsX11_within := goodIn_r _ [5] (by decide +kernel) (by decide +kernel)
set_option maxRecDepth 20000 in
theorem gX11_end_X11_within : GoodIn wsX11_end (va_wsS RX11 51 yX11_within wsX11_within) := goodIn_app (goodIn_of _ (by decide +kernel)) ggX11_end_X11_within
theorem dX11_end_0 : decode cX11_end 0 = .ok (.iload_n 1, 1) := by decide +kernel
theorem dX11_end_1 : decode cX11_end 1 = .ok (.iconst 0, 1) := by decide +kernel
theorem dX11_end_2 : decode cX11_end 2 = .ok (.aload_n 0, 1) := by decide +kernel
theorem dX11_end_3 : decode cX11_end 3 = .ok (.getfield 32, 3) := by decide +kernel
theorem dX11_end_6 : decode cX11_end 6 = .ok (.getfield 260, 3) := by decide +kernel
theorem dX11_end_9 : decode cX11_end 9 = .ok (.invokestatic 51, 3) := by decide +kernel
theorem dX11_end_12 : decode cX11_end 12 = .ok (.ifCond .ne 5, 3) := by decide +kernel
theorem dX11_end_15 : decode cX11_end 15 = .ok (.iconst (-1), 1) := by decide +kernel
theorem dX11_end_16 : decode cX11_end 16 = .ok (.ireturn, 1) := by decide +kernel
theorem dX11_end_17 : decode cX11_end 17 = .ok (.aload_n 0, 1) := by decide +kernel
theorem dX11_end_18 : decode cX11_end 18 = .ok (.getfield 32, 3) := by decide +kernel
theorem dX11_end_21 : decode cX11_end 21 = .ok (.iload_n 1, 1) := by decide +kernel
theorem dX11_end_22 : decode cX11_end 22 = .ok (.putfield 260, 3) := by decide +kernel
theorem dX11_end_25 : decode cX11_end 25 = .ok (.iload_n 1, 1) := by decide +kernel
theorem dX11_end_26 : decode cX11_end 26 = .ok (.ireturn, 1) := by decide +kernel
theorem dX11_fault_0 : decode cX11_fault 0 = .ok (.aload_n 0, 1) := by decide +kernel
theorem dX11_fault_1 : decode cX11_fault 1 = .ok (.getfield 32, 3) := by decide +kernel
theorem dX11_fault_4 : decode cX11_fault 4 = .ok (.getfield 275, 3) := by decide +kernel
theorem dX11_fault_7 : decode cX11_fault 7 = .ok (.ireturn, 1) := by decide +kernel
set_option maxRecDepth 20000 in
theorem ggX11_due_X4_has : GoodIn wsX11_due wsX4_has := goodIn_r _ [8, 9, 142, 143, 144] (by decide +kernel) (by decide +kernel)
set_option maxRecDepth 20000 in
theorem gX11_due_X4_has : GoodIn wsX11_due (wsV RX11 211 RX4 yX4_has wsX4_has) := goodIn_app (goodIn_of _ (by decide +kernel)) ggX11_due_X4_has
theorem dX11_due_0 : decode cX11_due 0 = .ok (.aload_n 0, 1) := by decide +kernel
theorem dX11_due_1 : decode cX11_due 1 = .ok (.getfield 10, 3) := by decide +kernel
theorem dX11_due_4 : decode cX11_due 4 = .ok (.getfield 207, 3) := by decide +kernel
theorem dX11_due_7 : decode cX11_due 7 = .ok (.iload_n 1, 1) := by decide +kernel
theorem dX11_due_8 : decode cX11_due 8 = .ok (.invokevirtual 211, 3) := by decide +kernel
theorem dX11_due_11 : decode cX11_due 11 = .ok (.ifCond .eq 21, 3) := by decide +kernel
theorem dX11_due_32 : decode cX11_due 32 = .ok (.ldc2_w 281, 3) := by decide +kernel
theorem dX11_due_35 : decode cX11_due 35 = .ok (.lreturn, 1) := by decide +kernel
set_option maxRecDepth 20000 in
theorem ggX11_settle_X4_has : GoodIn wsX11_settle wsX4_has := goodIn_r _ [7, 8, 153, 154, 155] (by decide +kernel) (by decide +kernel)
set_option maxRecDepth 20000 in
theorem gX11_settle_X4_has : GoodIn wsX11_settle (wsV RX11 211 RX4 yX4_has wsX4_has) := goodIn_app (goodIn_of _ (by decide +kernel)) ggX11_settle_X4_has
set_option maxRecDepth 20000 in
theorem ggX11_settle_X11_refuse : GoodIn wsX11_settle wsX11_refuse := goodIn_r _ [20, 21, 121, 122, 123, 124, 125, 126, 127] (by decide +kernel) (by decide +kernel)
set_option maxRecDepth 20000 in
theorem gX11_settle_X11_refuse : GoodIn wsX11_settle (wsV RX11 55 RX11 yX11_refuse wsX11_refuse) := goodIn_app (goodIn_of _ (by decide +kernel)) ggX11_settle_X11_refuse
theorem dX11_settle_0 : decode cX11_settle 0 = .ok (.aload_n 0, 1) := by decide +kernel
theorem dX11_settle_1 : decode cX11_settle 1 = .ok (.getfield 10, 3) := by decide +kernel
theorem dX11_settle_4 : decode cX11_settle 4 = .ok (.getfield 207, 3) := by decide +kernel
theorem dX11_settle_7 : decode cX11_settle 7 = .ok (.iload_n 1, 1) := by decide +kernel
theorem dX11_settle_8 : decode cX11_settle 8 = .ok (.invokevirtual 211, 3) := by decide +kernel
theorem dX11_settle_11 : decode cX11_settle 11 = .ok (.ifCond .eq 14, 3) := by decide +kernel
theorem dX11_settle_25 : decode cX11_settle 25 = .ok (.aload_n 0, 1) := by decide +kernel
theorem dX11_settle_26 : decode cX11_settle 26 = .ok (.bipush (-2), 2) := by decide +kernel
theorem dX11_settle_28 : decode cX11_settle 28 = .ok (.invokevirtual 55, 3) := by decide +kernel
theorem dX11_settle_31 : decode cX11_settle 31 = .ok (.ireturn, 1) := by decide +kernel
set_option maxRecDepth 20000 in
theorem ggX11_settled_X4_has : GoodIn wsX11_settled wsX4_has := goodIn_r _ [7, 8, 49, 50, 51] (by decide +kernel) (by decide +kernel)
set_option maxRecDepth 20000 in
theorem gX11_settled_X4_has : GoodIn wsX11_settled (wsV RX11 211 RX4 yX4_has wsX4_has) := goodIn_app (goodIn_of _ (by decide +kernel)) ggX11_settled_X4_has
theorem dX11_settled_0 : decode cX11_settled 0 = .ok (.aload_n 0, 1) := by decide +kernel
theorem dX11_settled_1 : decode cX11_settled 1 = .ok (.getfield 10, 3) := by decide +kernel
theorem dX11_settled_4 : decode cX11_settled 4 = .ok (.getfield 207, 3) := by decide +kernel
theorem dX11_settled_7 : decode cX11_settled 7 = .ok (.iload_n 1, 1) := by decide +kernel
theorem dX11_settled_8 : decode cX11_settled 8 = .ok (.invokevirtual 211, 3) := by decide +kernel
theorem dX11_settled_11 : decode cX11_settled 11 = .ok (.ifCond .eq 14, 3) := by decide +kernel
theorem dX11_settled_25 : decode cX11_settled 25 = .ok (.ldc2_w 281, 3) := by decide +kernel
theorem dX11_settled_28 : decode cX11_settled 28 = .ok (.lreturn, 1) := by decide +kernel
set_option maxRecDepth 20000 in
theorem ggX11_table_X11_within : GoodIn wsX11_table wsX11_within := goodIn_r _ [6] (by decide +kernel) (by decide +kernel)
set_option maxRecDepth 20000 in
theorem gX11_table_X11_within : GoodIn wsX11_table (va_wsS RX11 51 yX11_within wsX11_within) := goodIn_app (goodIn_of _ (by decide +kernel)) ggX11_table_X11_within
set_option maxRecDepth 20000 in
theorem ggX11_table_X11_refuse : GoodIn wsX11_table wsX11_refuse := goodIn_r _ [10, 11, 22, 23, 24, 25, 26, 27, 28] (by decide +kernel) (by decide +kernel)
set_option maxRecDepth 20000 in
theorem gX11_table_X11_refuse : GoodIn wsX11_table (wsV RX11 55 RX11 yX11_refuse wsX11_refuse) := goodIn_app (goodIn_of _ (by decide +kernel)) ggX11_table_X11_refuse
set_option maxRecDepth 20000 in
theorem ggX11_table_X10_hasShip : GoodIn wsX11_table wsX10_hasShip := goodIn_r _ [16, 17, 29, 30, 31, 32, 33, 34, 35, 36, 37, 38, 39, 40, 41, 42, 43, 44, 45, 46, 47] (by decide +kernel) (by decide +kernel)
set_option maxRecDepth 20000 in
theorem gX11_table_X10_hasShip : GoodIn wsX11_table (wsV RX11 108 RX10 yX10_hasShip wsX10_hasShip) := goodIn_app (goodIn_of _ (by decide +kernel)) ggX11_table_X10_hasShip
theorem dX11_table_0 : decode cX11_table 0 = .ok (.iload_n 2, 1) := by decide +kernel
theorem dX11_table_1 : decode cX11_table 1 = .ok (.iconst 0, 1) := by decide +kernel
theorem dX11_table_2 : decode cX11_table 2 = .ok (.iconst 3, 1) := by decide +kernel
theorem dX11_table_3 : decode cX11_table 3 = .ok (.invokestatic 51, 3) := by decide +kernel
theorem dX11_table_6 : decode cX11_table 6 = .ok (.ifCond .eq 25, 3) := by decide +kernel
theorem dX11_table_9 : decode cX11_table 9 = .ok (.iload_n 3, 1) := by decide +kernel
theorem dX11_table_10 : decode cX11_table 10 = .ok (.iconst 0, 1) := by decide +kernel
theorem dX11_table_11 : decode cX11_table 11 = .ok (.sipush 5000, 3) := by decide +kernel
theorem dX11_table_14 : decode cX11_table 14 = .ok (.invokestatic 51, 3) := by decide +kernel
theorem dX11_table_17 : decode cX11_table 17 = .ok (.ifCond .eq 14, 3) := by decide +kernel
theorem dX11_table_20 : decode cX11_table 20 = .ok (.iload 4, 2) := by decide +kernel
theorem dX11_table_22 : decode cX11_table 22 = .ok (.iconst 0, 1) := by decide +kernel
theorem dX11_table_23 : decode cX11_table 23 = .ok (.ldc 76, 2) := by decide +kernel
theorem dX11_table_25 : decode cX11_table 25 = .ok (.invokestatic 51, 3) := by decide +kernel
theorem dX11_table_28 : decode cX11_table 28 = .ok (.ifCond .ne 9, 3) := by decide +kernel
theorem dX11_table_31 : decode cX11_table 31 = .ok (.aload_n 0, 1) := by decide +kernel
theorem dX11_table_32 : decode cX11_table 32 = .ok (.iconst (-1), 1) := by decide +kernel
theorem dX11_table_33 : decode cX11_table 33 = .ok (.invokevirtual 55, 3) := by decide +kernel
theorem dX11_table_36 : decode cX11_table 36 = .ok (.ireturn, 1) := by decide +kernel
theorem dX11_table_37 : decode cX11_table 37 = .ok (.aload_n 0, 1) := by decide +kernel
theorem dX11_table_38 : decode cX11_table 38 = .ok (.getfield 10, 3) := by decide +kernel
theorem dX11_table_41 : decode cX11_table 41 = .ok (.iload_n 1, 1) := by decide +kernel
theorem dX11_table_42 : decode cX11_table 42 = .ok (.invokevirtual 108, 3) := by decide +kernel
theorem dX11_table_45 : decode cX11_table 45 = .ok (.ifCond .ne 10, 3) := by decide +kernel
theorem dX11_table_48 : decode cX11_table 48 = .ok (.aload_n 0, 1) := by decide +kernel
theorem dX11_table_49 : decode cX11_table 49 = .ok (.bipush (-2), 2) := by decide +kernel
theorem dX11_table_51 : decode cX11_table 51 = .ok (.invokevirtual 55, 3) := by decide +kernel
theorem dX11_table_54 : decode cX11_table 54 = .ok (.ireturn, 1) := by decide +kernel
set_option maxRecDepth 20000 in
theorem ggX11_list_X11_within : GoodIn wsX11_list wsX11_within := goodIn_r _ [5] (by decide +kernel) (by decide +kernel)
set_option maxRecDepth 20000 in
theorem gX11_list_X11_within : GoodIn wsX11_list (va_wsS RX11 51 yX11_within wsX11_within) := goodIn_app (goodIn_of _ (by decide +kernel)) ggX11_list_X11_within
set_option maxRecDepth 20000 in
theorem ggX11_list_X11_refuse : GoodIn wsX11_list wsX11_refuse := goodIn_r _ [9, 10, 21, 22, 23, 24, 25, 26, 27] (by decide +kernel) (by decide +kernel)
set_option maxRecDepth 20000 in
theorem gX11_list_X11_refuse : GoodIn wsX11_list (wsV RX11 55 RX11 yX11_refuse wsX11_refuse) := goodIn_app (goodIn_of _ (by decide +kernel)) ggX11_list_X11_refuse
set_option maxRecDepth 20000 in
theorem ggX11_list_X10_hasShip : GoodIn wsX11_list wsX10_hasShip := goodIn_r _ [15, 16, 28, 29, 30, 31, 32, 33, 34, 35, 36, 37, 38, 39, 40, 41, 42, 43, 44, 45, 46] (by decide +kernel) (by decide +kernel)
set_option maxRecDepth 20000 in
theorem gX11_list_X10_hasShip : GoodIn wsX11_list (wsV RX11 108 RX10 yX10_hasShip wsX10_hasShip) := goodIn_app (goodIn_of _ (by decide +kernel)) ggX11_list_X10_hasShip
theorem dX11_list_0 : decode cX11_list 0 = .ok (.iload_n 2, 1) := by decide +kernel
theorem dX11_list_1 : decode cX11_list 1 = .ok (.bipush (-50), 2) := by decide +kernel
theorem dX11_list_3 : decode cX11_list 3 = .ok (.bipush 50, 2) := by decide +kernel
theorem dX11_list_5 : decode cX11_list 5 = .ok (.invokestatic 51, 3) := by decide +kernel
theorem dX11_list_8 : decode cX11_list 8 = .ok (.ifCond .ne 9, 3) := by decide +kernel
theorem dX11_list_11 : decode cX11_list 11 = .ok (.aload_n 0, 1) := by decide +kernel
theorem dX11_list_12 : decode cX11_list 12 = .ok (.iconst (-1), 1) := by decide +kernel
theorem dX11_list_13 : decode cX11_list 13 = .ok (.invokevirtual 55, 3) := by decide +kernel
theorem dX11_list_16 : decode cX11_list 16 = .ok (.ireturn, 1) := by decide +kernel
theorem dX11_list_17 : decode cX11_list 17 = .ok (.aload_n 0, 1) := by decide +kernel
theorem dX11_list_18 : decode cX11_list 18 = .ok (.getfield 10, 3) := by decide +kernel
theorem dX11_list_21 : decode cX11_list 21 = .ok (.iload_n 1, 1) := by decide +kernel
theorem dX11_list_22 : decode cX11_list 22 = .ok (.invokevirtual 108, 3) := by decide +kernel
theorem dX11_list_25 : decode cX11_list 25 = .ok (.ifCond .ne 10, 3) := by decide +kernel
theorem dX11_list_28 : decode cX11_list 28 = .ok (.aload_n 0, 1) := by decide +kernel
theorem dX11_list_29 : decode cX11_list 29 = .ok (.bipush (-2), 2) := by decide +kernel
theorem dX11_list_31 : decode cX11_list 31 = .ok (.invokevirtual 55, 3) := by decide +kernel
theorem dX11_list_34 : decode cX11_list 34 = .ok (.ireturn, 1) := by decide +kernel
set_option maxRecDepth 20000 in
theorem ggX11_reading_X11_within : GoodIn wsX11_reading wsX11_within := goodIn_r _ [5] (by decide +kernel) (by decide +kernel)
set_option maxRecDepth 20000 in
theorem gX11_reading_X11_within : GoodIn wsX11_reading (va_wsS RX11 51 yX11_within wsX11_within) := goodIn_app (goodIn_of _ (by decide +kernel)) ggX11_reading_X11_within
set_option maxRecDepth 20000 in
theorem ggX11_reading_X11_isHour : GoodIn wsX11_reading wsX11_isHour := goodIn_r _ [8, 2, 3, 4, 5] (by decide +kernel) (by decide +kernel)
set_option maxRecDepth 20000 in
theorem gX11_reading_X11_isHour : GoodIn wsX11_reading (va_wsS RX11 229 yX11_isHour wsX11_isHour) := goodIn_app (goodIn_of _ (by decide +kernel)) ggX11_reading_X11_isHour
set_option maxRecDepth 20000 in
theorem ggX11_reading_X11_refuse : GoodIn wsX11_reading wsX11_refuse := goodIn_r _ [12, 13, 42, 43, 44, 45, 46, 47, 48] (by decide +kernel) (by decide +kernel)
set_option maxRecDepth 20000 in
theorem gX11_reading_X11_refuse : GoodIn wsX11_reading (wsV RX11 55 RX11 yX11_refuse wsX11_refuse) := goodIn_app (goodIn_of _ (by decide +kernel)) ggX11_reading_X11_refuse
set_option maxRecDepth 20000 in
theorem ggX11_reading_X4_has : GoodIn wsX11_reading wsX4_has := goodIn_r _ [18, 19, 68, 69, 70] (by decide +kernel) (by decide +kernel)
set_option maxRecDepth 20000 in
theorem gX11_reading_X4_has : GoodIn wsX11_reading (wsV RX11 211 RX4 yX4_has wsX4_has) := goodIn_app (goodIn_of _ (by decide +kernel)) ggX11_reading_X4_has
theorem dX11_reading_0 : decode cX11_reading 0 = .ok (.iload_n 2, 1) := by decide +kernel
theorem dX11_reading_1 : decode cX11_reading 1 = .ok (.iconst 0, 1) := by decide +kernel
theorem dX11_reading_2 : decode cX11_reading 2 = .ok (.iconst 1, 1) := by decide +kernel
theorem dX11_reading_3 : decode cX11_reading 3 = .ok (.invokestatic 51, 3) := by decide +kernel
theorem dX11_reading_6 : decode cX11_reading 6 = .ok (.ifCond .eq 34, 3) := by decide +kernel
theorem dX11_reading_9 : decode cX11_reading 9 = .ok (.iload_n 3, 1) := by decide +kernel
theorem dX11_reading_10 : decode cX11_reading 10 = .ok (.iconst 0, 1) := by decide +kernel
theorem dX11_reading_11 : decode cX11_reading 11 = .ok (.sipush 5000, 3) := by decide +kernel
theorem dX11_reading_14 : decode cX11_reading 14 = .ok (.invokestatic 51, 3) := by decide +kernel
theorem dX11_reading_17 : decode cX11_reading 17 = .ok (.ifCond .eq 23, 3) := by decide +kernel
theorem dX11_reading_20 : decode cX11_reading 20 = .ok (.iload 4, 2) := by decide +kernel
theorem dX11_reading_22 : decode cX11_reading 22 = .ok (.bipush (-20), 2) := by decide +kernel
theorem dX11_reading_24 : decode cX11_reading 24 = .ok (.bipush 20, 2) := by decide +kernel
theorem dX11_reading_26 : decode cX11_reading 26 = .ok (.invokestatic 51, 3) := by decide +kernel
theorem dX11_reading_29 : decode cX11_reading 29 = .ok (.ifCond .eq 11, 3) := by decide +kernel
theorem dX11_reading_32 : decode cX11_reading 32 = .ok (.iload 5, 2) := by decide +kernel
theorem dX11_reading_34 : decode cX11_reading 34 = .ok (.invokestatic 229, 3) := by decide +kernel
theorem dX11_reading_37 : decode cX11_reading 37 = .ok (.ifCond .ne 9, 3) := by decide +kernel
theorem dX11_reading_40 : decode cX11_reading 40 = .ok (.aload_n 0, 1) := by decide +kernel
theorem dX11_reading_41 : decode cX11_reading 41 = .ok (.iconst (-1), 1) := by decide +kernel
theorem dX11_reading_42 : decode cX11_reading 42 = .ok (.invokevirtual 55, 3) := by decide +kernel
theorem dX11_reading_45 : decode cX11_reading 45 = .ok (.ireturn, 1) := by decide +kernel
theorem dX11_reading_46 : decode cX11_reading 46 = .ok (.aload_n 0, 1) := by decide +kernel
theorem dX11_reading_47 : decode cX11_reading 47 = .ok (.getfield 10, 3) := by decide +kernel
theorem dX11_reading_50 : decode cX11_reading 50 = .ok (.getfield 207, 3) := by decide +kernel
theorem dX11_reading_53 : decode cX11_reading 53 = .ok (.iload_n 1, 1) := by decide +kernel
theorem dX11_reading_54 : decode cX11_reading 54 = .ok (.invokevirtual 211, 3) := by decide +kernel
theorem dX11_reading_57 : decode cX11_reading 57 = .ok (.ifCond .ne 10, 3) := by decide +kernel
theorem dX11_reading_60 : decode cX11_reading 60 = .ok (.aload_n 0, 1) := by decide +kernel
theorem dX11_reading_61 : decode cX11_reading 61 = .ok (.bipush (-2), 2) := by decide +kernel
theorem dX11_reading_63 : decode cX11_reading 63 = .ok (.invokevirtual 55, 3) := by decide +kernel
theorem dX11_reading_66 : decode cX11_reading 66 = .ok (.ireturn, 1) := by decide +kernel
set_option maxRecDepth 20000 in
theorem ggX11_gauged_X4_has : GoodIn wsX11_gauged wsX4_has := goodIn_r _ [8, 9, 101, 102, 103] (by decide +kernel) (by decide +kernel)
set_option maxRecDepth 20000 in
theorem gX11_gauged_X4_has : GoodIn wsX11_gauged (wsV RX11 211 RX4 yX4_has wsX4_has) := goodIn_app (goodIn_of _ (by decide +kernel)) ggX11_gauged_X4_has
theorem dX11_gauged_0 : decode cX11_gauged 0 = .ok (.aload_n 0, 1) := by decide +kernel
theorem dX11_gauged_1 : decode cX11_gauged 1 = .ok (.getfield 10, 3) := by decide +kernel
theorem dX11_gauged_4 : decode cX11_gauged 4 = .ok (.getfield 207, 3) := by decide +kernel
theorem dX11_gauged_7 : decode cX11_gauged 7 = .ok (.iload_n 1, 1) := by decide +kernel
theorem dX11_gauged_8 : decode cX11_gauged 8 = .ok (.invokevirtual 211, 3) := by decide +kernel
theorem dX11_gauged_11 : decode cX11_gauged 11 = .ok (.ifCond .eq 10, 3) := by decide +kernel
theorem dX11_gauged_21 : decode cX11_gauged 21 = .ok (.ldc2_w 281, 3) := by decide +kernel
theorem dX11_gauged_24 : decode cX11_gauged 24 = .ok (.lreturn, 1) := by decide +kernel
set_option maxRecDepth 20000 in
theorem ggX11_cargo_X11_isSpan : GoodIn wsX11_cargo wsX11_isSpan := goodIn_r _ [6, 7, 8, 5, 9, 10, 11, 12] (by decide +kernel) (by decide +kernel)
set_option maxRecDepth 20000 in
theorem gX11_cargo_X11_isSpan : GoodIn wsX11_cargo (va_wsS RX11 104 yX11_isSpan wsX11_isSpan) := goodIn_app (goodIn_of _ (by decide +kernel)) ggX11_cargo_X11_isSpan
set_option maxRecDepth 20000 in
theorem ggX11_cargo_X11_within : GoodIn wsX11_cargo wsX11_within := goodIn_r _ [12] (by decide +kernel) (by decide +kernel)
set_option maxRecDepth 20000 in
theorem gX11_cargo_X11_within : GoodIn wsX11_cargo (va_wsS RX11 51 yX11_within wsX11_within) := goodIn_app (goodIn_of _ (by decide +kernel)) ggX11_cargo_X11_within
set_option maxRecDepth 20000 in
theorem ggX11_cargo_X11_refuse : GoodIn wsX11_cargo wsX11_refuse := goodIn_r _ [16, 17, 51, 52, 53, 54, 55, 56, 57] (by decide +kernel) (by decide +kernel)
set_option maxRecDepth 20000 in
theorem gX11_cargo_X11_refuse : GoodIn wsX11_cargo (wsV RX11 55 RX11 yX11_refuse wsX11_refuse) := goodIn_app (goodIn_of _ (by decide +kernel)) ggX11_cargo_X11_refuse
set_option maxRecDepth 20000 in
theorem ggX11_cargo_X10_hasTerminal : GoodIn wsX11_cargo wsX10_hasTerminal := goodIn_r _ [22, 23, 58, 59, 60, 61, 62, 63, 64, 65, 66, 67, 68, 69, 70, 71, 72, 73, 74, 75, 76] (by decide +kernel) (by decide +kernel)
set_option maxRecDepth 20000 in
theorem gX11_cargo_X10_hasTerminal : GoodIn wsX11_cargo (wsV RX11 77 RX10 yX10_hasTerminal wsX10_hasTerminal) := goodIn_app (goodIn_of _ (by decide +kernel)) ggX11_cargo_X10_hasTerminal
theorem dX11_cargo_0 : decode cX11_cargo 0 = .ok (.iload_n 3, 1) := by decide +kernel
theorem dX11_cargo_1 : decode cX11_cargo 1 = .ok (.iload 4, 2) := by decide +kernel
theorem dX11_cargo_3 : decode cX11_cargo 3 = .ok (.invokestatic 104, 3) := by decide +kernel
theorem dX11_cargo_6 : decode cX11_cargo 6 = .ok (.ifCond .eq 36, 3) := by decide +kernel
theorem dX11_cargo_9 : decode cX11_cargo 9 = .ok (.iload 5, 2) := by decide +kernel
theorem dX11_cargo_11 : decode cX11_cargo 11 = .ok (.iload 6, 2) := by decide +kernel
theorem dX11_cargo_13 : decode cX11_cargo 13 = .ok (.invokestatic 104, 3) := by decide +kernel
theorem dX11_cargo_16 : decode cX11_cargo 16 = .ok (.ifCond .eq 26, 3) := by decide +kernel
theorem dX11_cargo_19 : decode cX11_cargo 19 = .ok (.iload 7, 2) := by decide +kernel
theorem dX11_cargo_21 : decode cX11_cargo 21 = .ok (.iconst 1, 1) := by decide +kernel
theorem dX11_cargo_22 : decode cX11_cargo 22 = .ok (.ldc 76, 2) := by decide +kernel
theorem dX11_cargo_24 : decode cX11_cargo 24 = .ok (.invokestatic 51, 3) := by decide +kernel
theorem dX11_cargo_27 : decode cX11_cargo 27 = .ok (.ifCond .eq 15, 3) := by decide +kernel
theorem dX11_cargo_30 : decode cX11_cargo 30 = .ok (.iload 8, 2) := by decide +kernel
theorem dX11_cargo_32 : decode cX11_cargo 32 = .ok (.iconst 0, 1) := by decide +kernel
theorem dX11_cargo_33 : decode cX11_cargo 33 = .ok (.sipush 1000, 3) := by decide +kernel
theorem dX11_cargo_36 : decode cX11_cargo 36 = .ok (.invokestatic 51, 3) := by decide +kernel
theorem dX11_cargo_39 : decode cX11_cargo 39 = .ok (.ifCond .ne 9, 3) := by decide +kernel
theorem dX11_cargo_42 : decode cX11_cargo 42 = .ok (.aload_n 0, 1) := by decide +kernel
theorem dX11_cargo_43 : decode cX11_cargo 43 = .ok (.iconst (-1), 1) := by decide +kernel
theorem dX11_cargo_44 : decode cX11_cargo 44 = .ok (.invokevirtual 55, 3) := by decide +kernel
theorem dX11_cargo_47 : decode cX11_cargo 47 = .ok (.ireturn, 1) := by decide +kernel
theorem dX11_cargo_48 : decode cX11_cargo 48 = .ok (.aload_n 0, 1) := by decide +kernel
theorem dX11_cargo_49 : decode cX11_cargo 49 = .ok (.getfield 10, 3) := by decide +kernel
theorem dX11_cargo_52 : decode cX11_cargo 52 = .ok (.iload_n 1, 1) := by decide +kernel
theorem dX11_cargo_53 : decode cX11_cargo 53 = .ok (.invokevirtual 77, 3) := by decide +kernel
theorem dX11_cargo_56 : decode cX11_cargo 56 = .ok (.ifCond .eq 14, 3) := by decide +kernel
theorem dX11_cargo_70 : decode cX11_cargo 70 = .ok (.aload_n 0, 1) := by decide +kernel
theorem dX11_cargo_71 : decode cX11_cargo 71 = .ok (.bipush (-2), 2) := by decide +kernel
theorem dX11_cargo_73 : decode cX11_cargo 73 = .ok (.invokevirtual 55, 3) := by decide +kernel
theorem dX11_cargo_76 : decode cX11_cargo 76 = .ok (.ireturn, 1) := by decide +kernel
theorem dX11_clear_0 : decode cX11_clear 0 = .ok (.aload_n 0, 1) := by decide +kernel
theorem dX11_clear_1 : decode cX11_clear 1 = .ok (.getfield 10, 3) := by decide +kernel
theorem dX11_clear_4 : decode cX11_clear 4 = .ok (.getfield 319, 3) := by decide +kernel
theorem dX11_clear_7 : decode cX11_clear 7 = .ok (.getfield 242, 3) := by decide +kernel
theorem dX11_clear_10 : decode cX11_clear 10 = .ok (.istore_n 1, 1) := by decide +kernel
theorem dX11_clear_11 : decode cX11_clear 11 = .ok (.aload_n 0, 1) := by decide +kernel
theorem dX11_clear_12 : decode cX11_clear 12 = .ok (.getfield 10, 3) := by decide +kernel
theorem dX11_clear_15 : decode cX11_clear 15 = .ok (.getfield 319, 3) := by decide +kernel
theorem dX11_clear_18 : decode cX11_clear 18 = .ok (.iconst 0, 1) := by decide +kernel
theorem dX11_clear_19 : decode cX11_clear 19 = .ok (.putfield 242, 3) := by decide +kernel
theorem dX11_clear_22 : decode cX11_clear 22 = .ok (.iload_n 1, 1) := by decide +kernel
theorem dX11_clear_23 : decode cX11_clear 23 = .ok (.ireturn, 1) := by decide +kernel
set_option maxRecDepth 20000 in
theorem ggX11_voyage_X11_within : GoodIn wsX11_voyage wsX11_within := goodIn_r _ [6] (by decide +kernel) (by decide +kernel)
set_option maxRecDepth 20000 in
theorem gX11_voyage_X11_within : GoodIn wsX11_voyage (va_wsS RX11 51 yX11_within wsX11_within) := goodIn_app (goodIn_of _ (by decide +kernel)) ggX11_voyage_X11_within
theorem dX11_voyage_0 : decode cX11_voyage 0 = .ok (.iload_n 1, 1) := by decide +kernel
theorem dX11_voyage_1 : decode cX11_voyage 1 = .ok (.iconst 0, 1) := by decide +kernel
theorem dX11_voyage_2 : decode cX11_voyage 2 = .ok (.aload_n 0, 1) := by decide +kernel
theorem dX11_voyage_3 : decode cX11_voyage 3 = .ok (.getfield 46, 3) := by decide +kernel
theorem dX11_voyage_6 : decode cX11_voyage 6 = .ok (.getfield 325, 3) := by decide +kernel
theorem dX11_voyage_9 : decode cX11_voyage 9 = .ok (.iconst 1, 1) := by decide +kernel
theorem dX11_voyage_10 : decode cX11_voyage 10 = .ok (.isub, 1) := by decide +kernel
theorem dX11_voyage_11 : decode cX11_voyage 11 = .ok (.invokestatic 51, 3) := by decide +kernel
theorem dX11_voyage_14 : decode cX11_voyage 14 = .ok (.ifCond .ne 7, 3) := by decide +kernel
theorem dX11_voyage_17 : decode cX11_voyage 17 = .ok (.ldc2_w 281, 3) := by decide +kernel
theorem dX11_voyage_20 : decode cX11_voyage 20 = .ok (.lreturn, 1) := by decide +kernel
set_option maxRecDepth 20000 in
theorem ggX11_judge_X1_sails : GoodIn wsX11_judge wsX1_sails := goodIn_r _ [7, 8, 9, 10, 11, 12, 13, 14, 100, 101, 102, 103, 104, 105, 106, 107, 108, 109, 110, 111, 112, 113, 114, 115, 116, 117, 118, 119, 120, 121, 122, 123, 124, 125, 126, 127, 128, 129, 130, 131, 132, 133] (by decide +kernel) (by decide +kernel)
set_option maxRecDepth 20000 in
theorem gX11_judge_X1_sails : GoodIn wsX11_judge (wsV RX11 343 RX1 yX1_sails wsX1_sails) := goodIn_app (goodIn_of _ (by decide +kernel)) ggX11_judge_X1_sails
theorem dX11_judge_0 : decode cX11_judge 0 = .ok (.aload_n 0, 1) := by decide +kernel
theorem dX11_judge_1 : decode cX11_judge 1 = .ok (.getfield 46, 3) := by decide +kernel
theorem dX11_judge_4 : decode cX11_judge 4 = .ok (.iload_n 1, 1) := by decide +kernel
theorem dX11_judge_5 : decode cX11_judge 5 = .ok (.invokevirtual 343, 3) := by decide +kernel
theorem dX11_judge_8 : decode cX11_judge 8 = .ok (.ifCond .eq 11, 3) := by decide +kernel
theorem dX11_judge_19 : decode cX11_judge 19 = .ok (.ldc2_w 281, 3) := by decide +kernel
theorem dX11_judge_22 : decode cX11_judge 22 = .ok (.lreturn, 1) := by decide +kernel
set_option maxRecDepth 20000 in
theorem ggX11_back_X11_within : GoodIn wsX11_back wsX11_within := goodIn_r _ [6] (by decide +kernel) (by decide +kernel)
set_option maxRecDepth 20000 in
theorem gX11_back_X11_within : GoodIn wsX11_back (va_wsS RX11 51 yX11_within wsX11_within) := goodIn_app (goodIn_of _ (by decide +kernel)) ggX11_back_X11_within
set_option maxRecDepth 20000 in
theorem ggX11_back_X11_refuse : GoodIn wsX11_back wsX11_refuse := goodIn_r _ [10, 11, 110, 111, 112, 113, 114, 115, 116] (by decide +kernel) (by decide +kernel)
set_option maxRecDepth 20000 in
theorem gX11_back_X11_refuse : GoodIn wsX11_back (wsV RX11 55 RX11 yX11_refuse wsX11_refuse) := goodIn_app (goodIn_of _ (by decide +kernel)) ggX11_back_X11_refuse
theorem dX11_back_0 : decode cX11_back 0 = .ok (.iload_n 1, 1) := by decide +kernel
theorem dX11_back_1 : decode cX11_back 1 = .ok (.iconst 0, 1) := by decide +kernel
theorem dX11_back_2 : decode cX11_back 2 = .ok (.aload_n 0, 1) := by decide +kernel
theorem dX11_back_3 : decode cX11_back 3 = .ok (.getfield 16, 3) := by decide +kernel
theorem dX11_back_6 : decode cX11_back 6 = .ok (.arraylength, 1) := by decide +kernel
theorem dX11_back_7 : decode cX11_back 7 = .ok (.iconst 1, 1) := by decide +kernel
theorem dX11_back_8 : decode cX11_back 8 = .ok (.isub, 1) := by decide +kernel
theorem dX11_back_9 : decode cX11_back 9 = .ok (.invokestatic 51, 3) := by decide +kernel
theorem dX11_back_12 : decode cX11_back 12 = .ok (.ifCond .ne 9, 3) := by decide +kernel
theorem dX11_back_15 : decode cX11_back 15 = .ok (.aload_n 0, 1) := by decide +kernel
theorem dX11_back_16 : decode cX11_back 16 = .ok (.iconst (-1), 1) := by decide +kernel
theorem dX11_back_17 : decode cX11_back 17 = .ok (.invokevirtual 55, 3) := by decide +kernel
theorem dX11_back_20 : decode cX11_back 20 = .ok (.ireturn, 1) := by decide +kernel
theorem dX11_back_21 : decode cX11_back 21 = .ok (.aload_n 0, 1) := by decide +kernel
theorem dX11_back_22 : decode cX11_back 22 = .ok (.getfield 16, 3) := by decide +kernel
theorem dX11_back_25 : decode cX11_back 25 = .ok (.iload_n 1, 1) := by decide +kernel
theorem dX11_back_26 : decode cX11_back 26 = .ok (.aaload, 1) := by decide +kernel
theorem dX11_back_27 : decode cX11_back 27 = .ok (.ifnonnull 10, 3) := by decide +kernel
theorem dX11_back_30 : decode cX11_back 30 = .ok (.aload_n 0, 1) := by decide +kernel
theorem dX11_back_31 : decode cX11_back 31 = .ok (.bipush (-2), 2) := by decide +kernel
theorem dX11_back_33 : decode cX11_back 33 = .ok (.invokevirtual 55, 3) := by decide +kernel
theorem dX11_back_36 : decode cX11_back 36 = .ok (.ireturn, 1) := by decide +kernel
theorem dX11_count_0 : decode cX11_count 0 = .ok (.iload_n 1, 1) := by decide +kernel
theorem dX11_count_1 : decode cX11_count 1 = .ok (.tableswitch 135 0 8 #[51, 59, 67, 75, 86, 97, 105, 116, 127], 51) := by decide +kernel
theorem dX11_count_52 : decode cX11_count 52 = .ok (.aload_n 0, 1) := by decide +kernel
theorem dX11_count_53 : decode cX11_count 53 = .ok (.getfield 10, 3) := by decide +kernel
theorem dX11_count_56 : decode cX11_count 56 = .ok (.getfield 154, 3) := by decide +kernel
theorem dX11_count_59 : decode cX11_count 59 = .ok (.ireturn, 1) := by decide +kernel
theorem dX11_count_60 : decode cX11_count 60 = .ok (.aload_n 0, 1) := by decide +kernel
theorem dX11_count_61 : decode cX11_count 61 = .ok (.getfield 10, 3) := by decide +kernel
theorem dX11_count_64 : decode cX11_count 64 = .ok (.getfield 59, 3) := by decide +kernel
theorem dX11_count_67 : decode cX11_count 67 = .ok (.ireturn, 1) := by decide +kernel
theorem dX11_count_68 : decode cX11_count 68 = .ok (.aload_n 0, 1) := by decide +kernel
theorem dX11_count_69 : decode cX11_count 69 = .ok (.getfield 10, 3) := by decide +kernel
theorem dX11_count_72 : decode cX11_count 72 = .ok (.getfield 81, 3) := by decide +kernel
theorem dX11_count_75 : decode cX11_count 75 = .ok (.ireturn, 1) := by decide +kernel
theorem dX11_count_76 : decode cX11_count 76 = .ok (.aload_n 0, 1) := by decide +kernel
theorem dX11_count_77 : decode cX11_count 77 = .ok (.getfield 10, 3) := by decide +kernel
theorem dX11_count_80 : decode cX11_count 80 = .ok (.getfield 111, 3) := by decide +kernel
theorem dX11_count_83 : decode cX11_count 83 = .ok (.getfield 353, 3) := by decide +kernel
theorem dX11_count_86 : decode cX11_count 86 = .ok (.ireturn, 1) := by decide +kernel
theorem dX11_count_87 : decode cX11_count 87 = .ok (.aload_n 0, 1) := by decide +kernel
theorem dX11_count_88 : decode cX11_count 88 = .ok (.getfield 10, 3) := by decide +kernel
theorem dX11_count_91 : decode cX11_count 91 = .ok (.getfield 207, 3) := by decide +kernel
theorem dX11_count_94 : decode cX11_count 94 = .ok (.getfield 242, 3) := by decide +kernel
theorem dX11_count_97 : decode cX11_count 97 = .ok (.ireturn, 1) := by decide +kernel
theorem dX11_count_98 : decode cX11_count 98 = .ok (.aload_n 0, 1) := by decide +kernel
theorem dX11_count_99 : decode cX11_count 99 = .ok (.getfield 10, 3) := by decide +kernel
theorem dX11_count_102 : decode cX11_count 102 = .ok (.getfield 261, 3) := by decide +kernel
theorem dX11_count_105 : decode cX11_count 105 = .ok (.ireturn, 1) := by decide +kernel
theorem dX11_count_106 : decode cX11_count 106 = .ok (.aload_n 0, 1) := by decide +kernel
theorem dX11_count_107 : decode cX11_count 107 = .ok (.getfield 10, 3) := by decide +kernel
theorem dX11_count_110 : decode cX11_count 110 = .ok (.getfield 319, 3) := by decide +kernel
theorem dX11_count_113 : decode cX11_count 113 = .ok (.getfield 242, 3) := by decide +kernel
theorem dX11_count_116 : decode cX11_count 116 = .ok (.ireturn, 1) := by decide +kernel
theorem dX11_count_117 : decode cX11_count 117 = .ok (.aload_n 0, 1) := by decide +kernel
theorem dX11_count_118 : decode cX11_count 118 = .ok (.getfield 10, 3) := by decide +kernel
theorem dX11_count_121 : decode cX11_count 121 = .ok (.getfield 306, 3) := by decide +kernel
theorem dX11_count_124 : decode cX11_count 124 = .ok (.getfield 242, 3) := by decide +kernel
theorem dX11_count_127 : decode cX11_count 127 = .ok (.ireturn, 1) := by decide +kernel
theorem dX11_count_128 : decode cX11_count 128 = .ok (.aload_n 0, 1) := by decide +kernel
theorem dX11_count_129 : decode cX11_count 129 = .ok (.getfield 32, 3) := by decide +kernel
theorem dX11_count_132 : decode cX11_count 132 = .ok (.getfield 260, 3) := by decide +kernel
theorem dX11_count_135 : decode cX11_count 135 = .ok (.ireturn, 1) := by decide +kernel
theorem dX11_count_136 : decode cX11_count 136 = .ok (.iconst (-1), 1) := by decide +kernel
theorem dX11_count_137 : decode cX11_count 137 = .ok (.ireturn, 1) := by decide +kernel
theorem dX11_status_0 : decode cX11_status 0 = .ok (.aload_n 0, 1) := by decide +kernel
theorem dX11_status_1 : decode cX11_status 1 = .ok (.getfield 354, 3) := by decide +kernel
theorem dX11_status_4 : decode cX11_status 4 = .ok (.ireturn, 1) := by decide +kernel
theorem dX11_refuse_0 : decode cX11_refuse 0 = .ok (.aload_n 0, 1) := by decide +kernel
theorem dX11_refuse_1 : decode cX11_refuse 1 = .ok (.iload_n 1, 1) := by decide +kernel
theorem dX11_refuse_2 : decode cX11_refuse 2 = .ok (.putfield 354, 3) := by decide +kernel
theorem dX11_refuse_5 : decode cX11_refuse 5 = .ok (.iload_n 1, 1) := by decide +kernel
theorem dX11_refuse_6 : decode cX11_refuse 6 = .ok (.ireturn, 1) := by decide +kernel
theorem dX11_accept_0 : decode cX11_accept 0 = .ok (.aload_n 0, 1) := by decide +kernel
theorem dX11_accept_1 : decode cX11_accept 1 = .ok (.iconst 0, 1) := by decide +kernel
theorem dX11_accept_2 : decode cX11_accept 2 = .ok (.putfield 354, 3) := by decide +kernel
theorem dX11_accept_5 : decode cX11_accept 5 = .ok (.iload_n 1, 1) := by decide +kernel
theorem dX11_accept_6 : decode cX11_accept 6 = .ok (.ireturn, 1) := by decide +kernel
theorem dX11_within_0 : decode cX11_within 0 = .ok (.iload_n 0, 1) := by decide +kernel
theorem dX11_within_1 : decode cX11_within 1 = .ok (.iload_n 1, 1) := by decide +kernel
theorem dX11_within_2 : decode cX11_within 2 = .ok (.if_icmp .lt 12, 3) := by decide +kernel
theorem dX11_within_5 : decode cX11_within 5 = .ok (.iload_n 0, 1) := by decide +kernel
theorem dX11_within_6 : decode cX11_within 6 = .ok (.iload_n 2, 1) := by decide +kernel
theorem dX11_within_7 : decode cX11_within 7 = .ok (.if_icmp .gt 7, 3) := by decide +kernel
theorem dX11_within_10 : decode cX11_within 10 = .ok (.iconst 1, 1) := by decide +kernel
theorem dX11_within_11 : decode cX11_within 11 = .ok (.goto 4, 3) := by decide +kernel
theorem dX11_within_14 : decode cX11_within 14 = .ok (.iconst 0, 1) := by decide +kernel
theorem dX11_within_15 : decode cX11_within 15 = .ok (.ireturn, 1) := by decide +kernel
set_option maxRecDepth 20000 in
theorem ggX11_isHour_X11_within : GoodIn wsX11_isHour wsX11_within := goodIn_r _ [4] (by decide +kernel) (by decide +kernel)
set_option maxRecDepth 20000 in
theorem gX11_isHour_X11_within : GoodIn wsX11_isHour (va_wsS RX11 51 yX11_within wsX11_within) := goodIn_app (goodIn_of _ (by decide +kernel)) ggX11_isHour_X11_within
theorem dX11_isHour_0 : decode cX11_isHour 0 = .ok (.iload_n 0, 1) := by decide +kernel
theorem dX11_isHour_1 : decode cX11_isHour 1 = .ok (.iconst 0, 1) := by decide +kernel
theorem dX11_isHour_2 : decode cX11_isHour 2 = .ok (.sipush 2399, 3) := by decide +kernel
theorem dX11_isHour_5 : decode cX11_isHour 5 = .ok (.invokestatic 51, 3) := by decide +kernel
theorem dX11_isHour_8 : decode cX11_isHour 8 = .ok (.ireturn, 1) := by decide +kernel
set_option maxRecDepth 20000 in
theorem ggX11_isSpan_X11_isHour : GoodIn wsX11_isSpan wsX11_isHour := goodIn_r _ [4, 5, 6, 3, 7] (by decide +kernel) (by decide +kernel)
set_option maxRecDepth 20000 in
theorem gX11_isSpan_X11_isHour : GoodIn wsX11_isSpan (va_wsS RX11 229 yX11_isHour wsX11_isHour) := goodIn_app (goodIn_of _ (by decide +kernel)) ggX11_isSpan_X11_isHour
theorem dX11_isSpan_0 : decode cX11_isSpan 0 = .ok (.iload_n 0, 1) := by decide +kernel
theorem dX11_isSpan_1 : decode cX11_isSpan 1 = .ok (.invokestatic 229, 3) := by decide +kernel
theorem dX11_isSpan_4 : decode cX11_isSpan 4 = .ok (.ifCond .eq 19, 3) := by decide +kernel
theorem dX11_isSpan_7 : decode cX11_isSpan 7 = .ok (.iload_n 1, 1) := by decide +kernel
theorem dX11_isSpan_8 : decode cX11_isSpan 8 = .ok (.invokestatic 229, 3) := by decide +kernel
theorem dX11_isSpan_11 : decode cX11_isSpan 11 = .ok (.ifCond .eq 12, 3) := by decide +kernel
theorem dX11_isSpan_14 : decode cX11_isSpan 14 = .ok (.iload_n 0, 1) := by decide +kernel
theorem dX11_isSpan_15 : decode cX11_isSpan 15 = .ok (.iload_n 1, 1) := by decide +kernel
theorem dX11_isSpan_16 : decode cX11_isSpan 16 = .ok (.if_icmp .gt 7, 3) := by decide +kernel
theorem dX11_isSpan_19 : decode cX11_isSpan 19 = .ok (.iconst 1, 1) := by decide +kernel
theorem dX11_isSpan_20 : decode cX11_isSpan 20 = .ok (.goto 4, 3) := by decide +kernel
theorem dX11_isSpan_23 : decode cX11_isSpan 23 = .ok (.iconst 0, 1) := by decide +kernel
theorem dX11_isSpan_24 : decode cX11_isSpan 24 = .ok (.ireturn, 1) := by decide +kernel
set_option maxRecDepth 20000 in
theorem ggX11_isOrder_X11_within : GoodIn wsX11_isOrder wsX11_within := goodIn_r _ [5] (by decide +kernel) (by decide +kernel)
set_option maxRecDepth 20000 in
theorem gX11_isOrder_X11_within : GoodIn wsX11_isOrder (va_wsS RX11 51 yX11_within wsX11_within) := goodIn_app (goodIn_of _ (by decide +kernel)) ggX11_isOrder_X11_within
set_option maxRecDepth 20000 in
theorem ggX11_isOrder_X11_isHour : GoodIn wsX11_isOrder wsX11_isHour := goodIn_r _ [8, 2, 3, 4, 5] (by decide +kernel) (by decide +kernel)
set_option maxRecDepth 20000 in
theorem gX11_isOrder_X11_isHour : GoodIn wsX11_isOrder (va_wsS RX11 229 yX11_isHour wsX11_isHour) := goodIn_app (goodIn_of _ (by decide +kernel)) ggX11_isOrder_X11_isHour
theorem dX11_isOrder_0 : decode cX11_isOrder 0 = .ok (.iload_n 0, 1) := by decide +kernel
theorem dX11_isOrder_1 : decode cX11_isOrder 1 = .ok (.tableswitch 46 0 3 #[31, 33, 33, 41], 31) := by decide +kernel
theorem dX11_isOrder_32 : decode cX11_isOrder 32 = .ok (.iconst 1, 1) := by decide +kernel
theorem dX11_isOrder_33 : decode cX11_isOrder 33 = .ok (.ireturn, 1) := by decide +kernel
theorem dX11_isOrder_34 : decode cX11_isOrder 34 = .ok (.iload_n 1, 1) := by decide +kernel
theorem dX11_isOrder_35 : decode cX11_isOrder 35 = .ok (.iconst 1, 1) := by decide +kernel
theorem dX11_isOrder_36 : decode cX11_isOrder 36 = .ok (.ldc 76, 2) := by decide +kernel
theorem dX11_isOrder_38 : decode cX11_isOrder 38 = .ok (.invokestatic 51, 3) := by decide +kernel
theorem dX11_isOrder_41 : decode cX11_isOrder 41 = .ok (.ireturn, 1) := by decide +kernel
theorem dX11_isOrder_42 : decode cX11_isOrder 42 = .ok (.iload_n 1, 1) := by decide +kernel
theorem dX11_isOrder_43 : decode cX11_isOrder 43 = .ok (.invokestatic 229, 3) := by decide +kernel
theorem dX11_isOrder_46 : decode cX11_isOrder 46 = .ok (.ireturn, 1) := by decide +kernel
theorem dX11_isOrder_47 : decode cX11_isOrder 47 = .ok (.iconst 0, 1) := by decide +kernel
theorem dX11_isOrder_48 : decode cX11_isOrder 48 = .ok (.ireturn, 1) := by decide +kernel
theorem dX12_in_0 : decode cX12_in 0 = .ok (.lload_n 0, 1) := by decide +kernel
theorem dX12_in_1 : decode cX12_in 1 = .ok (.lload_n 2, 1) := by decide +kernel
theorem dX12_in_2 : decode cX12_in 2 = .ok (.lcmp, 1) := by decide +kernel
theorem dX12_in_3 : decode cX12_in 3 = .ok (.ifCond .lt 14, 3) := by decide +kernel
theorem dX12_in_6 : decode cX12_in 6 = .ok (.lload_n 0, 1) := by decide +kernel
theorem dX12_in_7 : decode cX12_in 7 = .ok (.lload 4, 2) := by decide +kernel
theorem dX12_in_9 : decode cX12_in 9 = .ok (.lcmp, 1) := by decide +kernel
theorem dX12_in_10 : decode cX12_in 10 = .ok (.ifCond .gt 7, 3) := by decide +kernel
theorem dX12_in_13 : decode cX12_in 13 = .ok (.iconst 1, 1) := by decide +kernel
theorem dX12_in_14 : decode cX12_in 14 = .ok (.goto 4, 3) := by decide +kernel
theorem dX12_in_17 : decode cX12_in 17 = .ok (.iconst 0, 1) := by decide +kernel
theorem dX12_in_18 : decode cX12_in 18 = .ok (.ireturn, 1) := by decide +kernel
theorem dX12_told_0 : decode cX12_told 0 = .ok (.aload_n 0, 1) := by decide +kernel
theorem dX12_told_1 : decode cX12_told 1 = .ok (.iload_n 1, 1) := by decide +kernel
theorem dX12_told_2 : decode cX12_told 2 = .ok (.ifCond .ge 7, 3) := by decide +kernel
theorem dX12_told_5 : decode cX12_told 5 = .ok (.iload_n 1, 1) := by decide +kernel
theorem dX12_told_6 : decode cX12_told 6 = .ok (.goto 4, 3) := by decide +kernel
theorem dX12_told_9 : decode cX12_told 9 = .ok (.iconst 0, 1) := by decide +kernel
theorem dX12_told_10 : decode cX12_told 10 = .ok (.putfield 94, 3) := by decide +kernel
theorem dX12_told_13 : decode cX12_told 13 = .ok (.iload_n 1, 1) := by decide +kernel
theorem dX12_told_14 : decode cX12_told 14 = .ok (.ireturn, 1) := by decide +kernel
set_option maxRecDepth 20000 in
theorem ggX12_isHour_X12_in : GoodIn wsX12_isHour wsX12_in := goodIn_r _ [5] (by decide +kernel) (by decide +kernel)
set_option maxRecDepth 20000 in
theorem gX12_isHour_X12_in : GoodIn wsX12_isHour (va_wsS RX12 99 yX12_in wsX12_in) := goodIn_app (goodIn_of _ (by decide +kernel)) ggX12_isHour_X12_in
theorem dX12_isHour_0 : decode cX12_isHour 0 = .ok (.iload_n 0, 1) := by decide +kernel
theorem dX12_isHour_1 : decode cX12_isHour 1 = .ok (.i2l, 1) := by decide +kernel
theorem dX12_isHour_2 : decode cX12_isHour 2 = .ok (.lconst 0, 1) := by decide +kernel
theorem dX12_isHour_3 : decode cX12_isHour 3 = .ok (.ldc2_w 97, 3) := by decide +kernel
theorem dX12_isHour_6 : decode cX12_isHour 6 = .ok (.invokestatic 99, 3) := by decide +kernel
theorem dX12_isHour_9 : decode cX12_isHour 9 = .ok (.ireturn, 1) := by decide +kernel
set_option maxRecDepth 20000 in
theorem ggX12_isDay_X12_in : GoodIn wsX12_isDay wsX12_in := goodIn_r _ [5] (by decide +kernel) (by decide +kernel)
set_option maxRecDepth 20000 in
theorem gX12_isDay_X12_in : GoodIn wsX12_isDay (va_wsS RX12 99 yX12_in wsX12_in) := goodIn_app (goodIn_of _ (by decide +kernel)) ggX12_isDay_X12_in
theorem dX12_isDay_0 : decode cX12_isDay 0 = .ok (.iload_n 0, 1) := by decide +kernel
theorem dX12_isDay_1 : decode cX12_isDay 1 = .ok (.i2l, 1) := by decide +kernel
theorem dX12_isDay_2 : decode cX12_isDay 2 = .ok (.lconst 0, 1) := by decide +kernel
theorem dX12_isDay_3 : decode cX12_isDay 3 = .ok (.ldc2_w 103, 3) := by decide +kernel
theorem dX12_isDay_6 : decode cX12_isDay 6 = .ok (.invokestatic 99, 3) := by decide +kernel
theorem dX12_isDay_9 : decode cX12_isDay 9 = .ok (.ireturn, 1) := by decide +kernel
theorem dX12_addFour_0 : decode cX12_addFour 0 = .ok (.aload_n 0, 1) := by decide +kernel
theorem dX12_addFour_1 : decode cX12_addFour 1 = .ok (.getfield 7, 3) := by decide +kernel
theorem dX12_addFour_4 : decode cX12_addFour 4 = .ok (.iload_n 1, 1) := by decide +kernel
theorem dX12_addFour_5 : decode cX12_addFour 5 = .ok (.iload_n 2, 1) := by decide +kernel
theorem dX12_addFour_6 : decode cX12_addFour 6 = .ok (.iastore, 1) := by decide +kernel
theorem dX12_addFour_7 : decode cX12_addFour 7 = .ok (.aload_n 0, 1) := by decide +kernel
theorem dX12_addFour_8 : decode cX12_addFour 8 = .ok (.getfield 7, 3) := by decide +kernel
theorem dX12_addFour_11 : decode cX12_addFour 11 = .ok (.iload_n 1, 1) := by decide +kernel
theorem dX12_addFour_12 : decode cX12_addFour 12 = .ok (.iconst 1, 1) := by decide +kernel
theorem dX12_addFour_13 : decode cX12_addFour 13 = .ok (.iadd, 1) := by decide +kernel
theorem dX12_addFour_14 : decode cX12_addFour 14 = .ok (.iload_n 3, 1) := by decide +kernel
theorem dX12_addFour_15 : decode cX12_addFour 15 = .ok (.iastore, 1) := by decide +kernel
theorem dX12_addFour_16 : decode cX12_addFour 16 = .ok (.aload_n 0, 1) := by decide +kernel
theorem dX12_addFour_17 : decode cX12_addFour 17 = .ok (.getfield 7, 3) := by decide +kernel
theorem dX12_addFour_20 : decode cX12_addFour 20 = .ok (.iload_n 1, 1) := by decide +kernel
theorem dX12_addFour_21 : decode cX12_addFour 21 = .ok (.iconst 2, 1) := by decide +kernel
theorem dX12_addFour_22 : decode cX12_addFour 22 = .ok (.iadd, 1) := by decide +kernel
theorem dX12_addFour_23 : decode cX12_addFour 23 = .ok (.iload 4, 2) := by decide +kernel
theorem dX12_addFour_25 : decode cX12_addFour 25 = .ok (.iastore, 1) := by decide +kernel
theorem dX12_addFour_26 : decode cX12_addFour 26 = .ok (.aload_n 0, 1) := by decide +kernel
theorem dX12_addFour_27 : decode cX12_addFour 27 = .ok (.getfield 7, 3) := by decide +kernel
theorem dX12_addFour_30 : decode cX12_addFour 30 = .ok (.iload_n 1, 1) := by decide +kernel
theorem dX12_addFour_31 : decode cX12_addFour 31 = .ok (.iconst 3, 1) := by decide +kernel
theorem dX12_addFour_32 : decode cX12_addFour 32 = .ok (.iadd, 1) := by decide +kernel
theorem dX12_addFour_33 : decode cX12_addFour 33 = .ok (.iload 5, 2) := by decide +kernel
theorem dX12_addFour_35 : decode cX12_addFour 35 = .ok (.iastore, 1) := by decide +kernel
theorem dX12_addFour_36 : decode cX12_addFour 36 = .ok (.return_, 1) := by decide +kernel
set_option maxRecDepth 20000 in
theorem ggX12_back_X12_in : GoodIn wsX12_back wsX12_in := goodIn_r _ [8] (by decide +kernel) (by decide +kernel)
set_option maxRecDepth 20000 in
theorem gX12_back_X12_in : GoodIn wsX12_back (va_wsS RX12 99 yX12_in wsX12_in) := goodIn_app (goodIn_of _ (by decide +kernel)) ggX12_back_X12_in
set_option maxRecDepth 20000 in
theorem ggX12_back_X12_told : GoodIn wsX12_back wsX12_told := goodIn_r _ [12, 13, 14, 15, 16, 17, 18, 19, 20, 21, 22, 23, 24, 25, 26, 27, 28, 29, 30, 31, 32, 33, 34, 35, 36, 37, 38, 39, 40, 41, 42, 43, 44, 45, 46, 47, 48, 49, 50, 51, 52, 53, 54, 55, 56, 57, 58, 59, 60, 61, 62, 63, 64, 65, 66] (by decide +kernel) (by decide +kernel)
set_option maxRecDepth 20000 in
theorem gX12_back_X12_told : GoodIn wsX12_back (wsV RX12 105 RX12 yX12_told wsX12_told) := goodIn_app (goodIn_of _ (by decide +kernel)) ggX12_back_X12_told
theorem dX12_back_0 : decode cX12_back 0 = .ok (.aload_n 0, 1) := by decide +kernel
theorem dX12_back_1 : decode cX12_back 1 = .ok (.iconst 0, 1) := by decide +kernel
theorem dX12_back_2 : decode cX12_back 2 = .ok (.putfield 91, 3) := by decide +kernel
theorem dX12_back_5 : decode cX12_back 5 = .ok (.iload_n 1, 1) := by decide +kernel
theorem dX12_back_6 : decode cX12_back 6 = .ok (.i2l, 1) := by decide +kernel
theorem dX12_back_7 : decode cX12_back 7 = .ok (.lconst 0, 1) := by decide +kernel
theorem dX12_back_8 : decode cX12_back 8 = .ok (.lconst 1, 1) := by decide +kernel
theorem dX12_back_9 : decode cX12_back 9 = .ok (.invokestatic 99, 3) := by decide +kernel
theorem dX12_back_12 : decode cX12_back 12 = .ok (.ifCond .ne 9, 3) := by decide +kernel
theorem dX12_back_15 : decode cX12_back 15 = .ok (.aload_n 0, 1) := by decide +kernel
theorem dX12_back_16 : decode cX12_back 16 = .ok (.iconst (-1), 1) := by decide +kernel
theorem dX12_back_17 : decode cX12_back 17 = .ok (.invokevirtual 105, 3) := by decide +kernel
theorem dX12_back_20 : decode cX12_back 20 = .ok (.ireturn, 1) := by decide +kernel
theorem dX12_back_21 : decode cX12_back 21 = .ok (.aload_n 0, 1) := by decide +kernel
theorem dX12_back_22 : decode cX12_back 22 = .ok (.getfield 16, 3) := by decide +kernel
theorem dX12_back_25 : decode cX12_back 25 = .ok (.iload_n 1, 1) := by decide +kernel
theorem dX12_back_26 : decode cX12_back 26 = .ok (.baload, 1) := by decide +kernel
theorem dX12_back_27 : decode cX12_back 27 = .ok (.ifCond .ne 10, 3) := by decide +kernel
theorem dX12_back_30 : decode cX12_back 30 = .ok (.aload_n 0, 1) := by decide +kernel
theorem dX12_back_31 : decode cX12_back 31 = .ok (.bipush (-2), 2) := by decide +kernel
theorem dX12_back_33 : decode cX12_back 33 = .ok (.invokevirtual 105, 3) := by decide +kernel
theorem dX12_back_36 : decode cX12_back 36 = .ok (.ireturn, 1) := by decide +kernel
set_option maxRecDepth 20000 in
theorem ggX12_isTerminal_X12_in : GoodIn wsX12_isTerminal wsX12_in := goodIn_r _ [5] (by decide +kernel) (by decide +kernel)
set_option maxRecDepth 20000 in
theorem gX12_isTerminal_X12_in : GoodIn wsX12_isTerminal (va_wsS RX12 99 yX12_in wsX12_in) := goodIn_app (goodIn_of _ (by decide +kernel)) ggX12_isTerminal_X12_in
theorem dX12_isTerminal_0 : decode cX12_isTerminal 0 = .ok (.iload_n 1, 1) := by decide +kernel
theorem dX12_isTerminal_1 : decode cX12_isTerminal 1 = .ok (.i2l, 1) := by decide +kernel
theorem dX12_isTerminal_2 : decode cX12_isTerminal 2 = .ok (.lconst 0, 1) := by decide +kernel
theorem dX12_isTerminal_3 : decode cX12_isTerminal 3 = .ok (.aload_n 0, 1) := by decide +kernel
theorem dX12_isTerminal_4 : decode cX12_isTerminal 4 = .ok (.getfield 7, 3) := by decide +kernel
theorem dX12_isTerminal_7 : decode cX12_isTerminal 7 = .ok (.iconst 0, 1) := by decide +kernel
theorem dX12_isTerminal_8 : decode cX12_isTerminal 8 = .ok (.iaload, 1) := by decide +kernel
theorem dX12_isTerminal_9 : decode cX12_isTerminal 9 = .ok (.i2l, 1) := by decide +kernel
theorem dX12_isTerminal_10 : decode cX12_isTerminal 10 = .ok (.lconst 1, 1) := by decide +kernel
theorem dX12_isTerminal_11 : decode cX12_isTerminal 11 = .ok (.lsub, 1) := by decide +kernel
theorem dX12_isTerminal_12 : decode cX12_isTerminal 12 = .ok (.invokestatic 99, 3) := by decide +kernel
theorem dX12_isTerminal_15 : decode cX12_isTerminal 15 = .ok (.ireturn, 1) := by decide +kernel
set_option maxRecDepth 20000 in
theorem ggX12_isShip_X12_in : GoodIn wsX12_isShip wsX12_in := goodIn_r _ [5] (by decide +kernel) (by decide +kernel)
set_option maxRecDepth 20000 in
theorem gX12_isShip_X12_in : GoodIn wsX12_isShip (va_wsS RX12 99 yX12_in wsX12_in) := goodIn_app (goodIn_of _ (by decide +kernel)) ggX12_isShip_X12_in
theorem dX12_isShip_0 : decode cX12_isShip 0 = .ok (.iload_n 1, 1) := by decide +kernel
theorem dX12_isShip_1 : decode cX12_isShip 1 = .ok (.i2l, 1) := by decide +kernel
theorem dX12_isShip_2 : decode cX12_isShip 2 = .ok (.lconst 0, 1) := by decide +kernel
theorem dX12_isShip_3 : decode cX12_isShip 3 = .ok (.aload_n 0, 1) := by decide +kernel
theorem dX12_isShip_4 : decode cX12_isShip 4 = .ok (.getfield 7, 3) := by decide +kernel
theorem dX12_isShip_7 : decode cX12_isShip 7 = .ok (.iconst 1, 1) := by decide +kernel
theorem dX12_isShip_8 : decode cX12_isShip 8 = .ok (.iaload, 1) := by decide +kernel
theorem dX12_isShip_9 : decode cX12_isShip 9 = .ok (.i2l, 1) := by decide +kernel
theorem dX12_isShip_10 : decode cX12_isShip 10 = .ok (.lconst 1, 1) := by decide +kernel
theorem dX12_isShip_11 : decode cX12_isShip 11 = .ok (.lsub, 1) := by decide +kernel
theorem dX12_isShip_12 : decode cX12_isShip 12 = .ok (.invokestatic 99, 3) := by decide +kernel
theorem dX12_isShip_15 : decode cX12_isShip 15 = .ok (.ireturn, 1) := by decide +kernel
theorem dX12_terminalAt_0 : decode cX12_terminalAt 0 = .ok (.bipush 20, 2) := by decide +kernel
theorem dX12_terminalAt_2 : decode cX12_terminalAt 2 = .ok (.iconst 5, 1) := by decide +kernel
theorem dX12_terminalAt_3 : decode cX12_terminalAt 3 = .ok (.iload_n 0, 1) := by decide +kernel
theorem dX12_terminalAt_4 : decode cX12_terminalAt 4 = .ok (.imul, 1) := by decide +kernel
theorem dX12_terminalAt_5 : decode cX12_terminalAt 5 = .ok (.iadd, 1) := by decide +kernel
theorem dX12_terminalAt_6 : decode cX12_terminalAt 6 = .ok (.ireturn, 1) := by decide +kernel
set_option maxRecDepth 20000 in
theorem ggX12_terminal_X12_in : GoodIn wsX12_terminal wsX12_in := goodIn_r _ [9] (by decide +kernel) (by decide +kernel)
set_option maxRecDepth 20000 in
theorem gX12_terminal_X12_in : GoodIn wsX12_terminal (va_wsS RX12 99 yX12_in wsX12_in) := goodIn_app (goodIn_of _ (by decide +kernel)) ggX12_terminal_X12_in
set_option maxRecDepth 20000 in
theorem ggX12_terminal_X12_told : GoodIn wsX12_terminal wsX12_told := goodIn_r _ [13, 14, 22, 23, 24, 25, 26, 27, 28, 29, 30, 31, 32, 33, 34, 35, 36, 37, 38, 39, 40, 41, 42, 43, 44, 45, 46, 47, 48, 49, 50, 51, 52, 53, 54, 55, 56, 57, 58, 59, 60, 61, 62, 63, 64, 65, 66, 67, 68, 69, 70, 71, 72, 73, 74] (by decide +kernel) (by decide +kernel)
set_option maxRecDepth 20000 in
theorem gX12_terminal_X12_told : GoodIn wsX12_terminal (wsV RX12 105 RX12 yX12_told wsX12_told) := goodIn_app (goodIn_of _ (by decide +kernel)) ggX12_terminal_X12_told
set_option maxRecDepth 20000 in
theorem ggX12_terminal_X12_terminalAt : GoodIn wsX12_terminal wsX12_terminalAt := goodIn_r _ [17] (by decide +kernel) (by decide +kernel)
set_option maxRecDepth 20000 in
theorem gX12_terminal_X12_terminalAt : GoodIn wsX12_terminal (va_wsS RX12 115 yX12_terminalAt wsX12_terminalAt) := goodIn_app (goodIn_of _ (by decide +kernel)) ggX12_terminal_X12_terminalAt
set_option maxRecDepth 20000 in
theorem ggX12_terminal_X12_addFour : GoodIn wsX12_terminal wsX12_addFour := goodIn_r _ [21, 5, 22, 23, 24, 25, 26, 27, 28, 29, 30, 31, 32, 33, 34, 35, 36, 37, 38, 39, 40, 41, 42, 43, 44, 45, 46, 47, 48, 49, 50, 51, 52, 53, 54, 55, 56, 57, 58, 59, 60, 61, 62, 63, 64, 65, 66, 67, 68, 69, 70, 71, 72, 73, 74] (by decide +kernel) (by decide +kernel)
set_option maxRecDepth 20000 in
theorem gX12_terminal_X12_addFour : GoodIn wsX12_terminal (wsV RX12 118 RX12 yX12_addFour wsX12_addFour) := goodIn_app (goodIn_of _ (by decide +kernel)) ggX12_terminal_X12_addFour
theorem dX12_terminal_0 : decode cX12_terminal 0 = .ok (.aload_n 0, 1) := by decide +kernel
theorem dX12_terminal_1 : decode cX12_terminal 1 = .ok (.iconst 0, 1) := by decide +kernel
theorem dX12_terminal_2 : decode cX12_terminal 2 = .ok (.putfield 91, 3) := by decide +kernel
theorem dX12_terminal_5 : decode cX12_terminal 5 = .ok (.iload_n 2, 1) := by decide +kernel
theorem dX12_terminal_6 : decode cX12_terminal 6 = .ok (.i2l, 1) := by decide +kernel
theorem dX12_terminal_7 : decode cX12_terminal 7 = .ok (.lconst 0, 1) := by decide +kernel
theorem dX12_terminal_8 : decode cX12_terminal 8 = .ok (.ldc2_w 109, 3) := by decide +kernel
theorem dX12_terminal_11 : decode cX12_terminal 11 = .ok (.invokestatic 99, 3) := by decide +kernel
theorem dX12_terminal_14 : decode cX12_terminal 14 = .ok (.ifCond .eq 39, 3) := by decide +kernel
theorem dX12_terminal_17 : decode cX12_terminal 17 = .ok (.iload_n 1, 1) := by decide +kernel
theorem dX12_terminal_18 : decode cX12_terminal 18 = .ok (.i2l, 1) := by decide +kernel
theorem dX12_terminal_19 : decode cX12_terminal 19 = .ok (.lconst 0, 1) := by decide +kernel
theorem dX12_terminal_20 : decode cX12_terminal 20 = .ok (.iload_n 2, 1) := by decide +kernel
theorem dX12_terminal_21 : decode cX12_terminal 21 = .ok (.i2l, 1) := by decide +kernel
theorem dX12_terminal_22 : decode cX12_terminal 22 = .ok (.invokestatic 99, 3) := by decide +kernel
theorem dX12_terminal_25 : decode cX12_terminal 25 = .ok (.ifCond .eq 28, 3) := by decide +kernel
theorem dX12_terminal_28 : decode cX12_terminal 28 = .ok (.iload_n 3, 1) := by decide +kernel
theorem dX12_terminal_29 : decode cX12_terminal 29 = .ok (.i2l, 1) := by decide +kernel
theorem dX12_terminal_30 : decode cX12_terminal 30 = .ok (.lconst 1, 1) := by decide +kernel
theorem dX12_terminal_31 : decode cX12_terminal 31 = .ok (.ldc2_w 111, 3) := by decide +kernel
theorem dX12_terminal_34 : decode cX12_terminal 34 = .ok (.invokestatic 99, 3) := by decide +kernel
theorem dX12_terminal_37 : decode cX12_terminal 37 = .ok (.ifCond .eq 16, 3) := by decide +kernel
theorem dX12_terminal_40 : decode cX12_terminal 40 = .ok (.iload 4, 2) := by decide +kernel
theorem dX12_terminal_42 : decode cX12_terminal 42 = .ok (.i2l, 1) := by decide +kernel
theorem dX12_terminal_43 : decode cX12_terminal 43 = .ok (.lconst 0, 1) := by decide +kernel
theorem dX12_terminal_44 : decode cX12_terminal 44 = .ok (.ldc2_w 113, 3) := by decide +kernel
theorem dX12_terminal_47 : decode cX12_terminal 47 = .ok (.invokestatic 99, 3) := by decide +kernel
theorem dX12_terminal_50 : decode cX12_terminal 50 = .ok (.ifCond .ne 9, 3) := by decide +kernel
theorem dX12_terminal_53 : decode cX12_terminal 53 = .ok (.aload_n 0, 1) := by decide +kernel
theorem dX12_terminal_54 : decode cX12_terminal 54 = .ok (.iconst (-1), 1) := by decide +kernel
theorem dX12_terminal_55 : decode cX12_terminal 55 = .ok (.invokevirtual 105, 3) := by decide +kernel
theorem dX12_terminal_58 : decode cX12_terminal 58 = .ok (.ireturn, 1) := by decide +kernel
theorem dX12_terminal_59 : decode cX12_terminal 59 = .ok (.aload_n 0, 1) := by decide +kernel
theorem dX12_terminal_60 : decode cX12_terminal 60 = .ok (.getfield 7, 3) := by decide +kernel
theorem dX12_terminal_63 : decode cX12_terminal 63 = .ok (.iconst 0, 1) := by decide +kernel
theorem dX12_terminal_64 : decode cX12_terminal 64 = .ok (.iaload, 1) := by decide +kernel
theorem dX12_terminal_65 : decode cX12_terminal 65 = .ok (.bipush 6, 2) := by decide +kernel
theorem dX12_terminal_67 : decode cX12_terminal 67 = .ok (.if_icmp .ne 10, 3) := by decide +kernel
theorem dX12_terminal_77 : decode cX12_terminal 77 = .ok (.aload_n 0, 1) := by decide +kernel
theorem dX12_terminal_78 : decode cX12_terminal 78 = .ok (.getfield 7, 3) := by decide +kernel
theorem dX12_terminal_81 : decode cX12_terminal 81 = .ok (.iconst 0, 1) := by decide +kernel
theorem dX12_terminal_82 : decode cX12_terminal 82 = .ok (.iaload, 1) := by decide +kernel
theorem dX12_terminal_83 : decode cX12_terminal 83 = .ok (.invokestatic 115, 3) := by decide +kernel
theorem dX12_terminal_86 : decode cX12_terminal 86 = .ok (.istore 5, 2) := by decide +kernel
theorem dX12_terminal_88 : decode cX12_terminal 88 = .ok (.aload_n 0, 1) := by decide +kernel
theorem dX12_terminal_89 : decode cX12_terminal 89 = .ok (.iload 5, 2) := by decide +kernel
theorem dX12_terminal_91 : decode cX12_terminal 91 = .ok (.iload_n 1, 1) := by decide +kernel
theorem dX12_terminal_92 : decode cX12_terminal 92 = .ok (.iload_n 2, 1) := by decide +kernel
theorem dX12_terminal_93 : decode cX12_terminal 93 = .ok (.iload_n 3, 1) := by decide +kernel
theorem dX12_terminal_94 : decode cX12_terminal 94 = .ok (.iload 4, 2) := by decide +kernel
theorem dX12_terminal_96 : decode cX12_terminal 96 = .ok (.invokevirtual 118, 3) := by decide +kernel
theorem dX12_terminal_99 : decode cX12_terminal 99 = .ok (.aload_n 0, 1) := by decide +kernel
theorem dX12_terminal_100 : decode cX12_terminal 100 = .ok (.getfield 7, 3) := by decide +kernel
theorem dX12_terminal_103 : decode cX12_terminal 103 = .ok (.iload 5, 2) := by decide +kernel
theorem dX12_terminal_105 : decode cX12_terminal 105 = .ok (.iconst 4, 1) := by decide +kernel
theorem dX12_terminal_106 : decode cX12_terminal 106 = .ok (.iadd, 1) := by decide +kernel
theorem dX12_terminal_107 : decode cX12_terminal 107 = .ok (.sipush 1000, 3) := by decide +kernel
theorem dX12_terminal_110 : decode cX12_terminal 110 = .ok (.iastore, 1) := by decide +kernel
theorem dX12_terminal_111 : decode cX12_terminal 111 = .ok (.aload_n 0, 1) := by decide +kernel
theorem dX12_terminal_112 : decode cX12_terminal 112 = .ok (.getfield 7, 3) := by decide +kernel
theorem dX12_terminal_115 : decode cX12_terminal 115 = .ok (.iconst 0, 1) := by decide +kernel
theorem dX12_terminal_116 : decode cX12_terminal 116 = .ok (.dup2, 1) := by decide +kernel
theorem dX12_terminal_117 : decode cX12_terminal 117 = .ok (.iaload, 1) := by decide +kernel
theorem dX12_terminal_118 : decode cX12_terminal 118 = .ok (.iconst 1, 1) := by decide +kernel
theorem dX12_terminal_119 : decode cX12_terminal 119 = .ok (.iadd, 1) := by decide +kernel
theorem dX12_terminal_120 : decode cX12_terminal 120 = .ok (.iastore, 1) := by decide +kernel
theorem dX12_terminal_121 : decode cX12_terminal 121 = .ok (.aload_n 0, 1) := by decide +kernel
theorem dX12_terminal_122 : decode cX12_terminal 122 = .ok (.aload_n 0, 1) := by decide +kernel
theorem dX12_terminal_123 : decode cX12_terminal 123 = .ok (.getfield 7, 3) := by decide +kernel
theorem dX12_terminal_126 : decode cX12_terminal 126 = .ok (.iconst 0, 1) := by decide +kernel
theorem dX12_terminal_127 : decode cX12_terminal 127 = .ok (.iaload, 1) := by decide +kernel
theorem dX12_terminal_128 : decode cX12_terminal 128 = .ok (.iconst 1, 1) := by decide +kernel
theorem dX12_terminal_129 : decode cX12_terminal 129 = .ok (.isub, 1) := by decide +kernel
theorem dX12_terminal_130 : decode cX12_terminal 130 = .ok (.invokevirtual 105, 3) := by decide +kernel
theorem dX12_terminal_133 : decode cX12_terminal 133 = .ok (.ireturn, 1) := by decide +kernel
set_option maxRecDepth 20000 in
theorem ggX12_ship_X12_in : GoodIn wsX12_ship wsX12_in := goodIn_r _ [9] (by decide +kernel) (by decide +kernel)
set_option maxRecDepth 20000 in
theorem gX12_ship_X12_in : GoodIn wsX12_ship (va_wsS RX12 99 yX12_in wsX12_in) := goodIn_app (goodIn_of _ (by decide +kernel)) ggX12_ship_X12_in
set_option maxRecDepth 20000 in
theorem ggX12_ship_X12_told : GoodIn wsX12_ship wsX12_told := goodIn_r _ [13, 14, 22, 23, 24, 25, 26, 27, 28, 29, 30, 31, 32, 33, 34, 35, 36, 37, 38, 39, 40, 41, 42, 43, 44, 45, 46, 47, 48, 49, 50, 51, 52, 53, 54, 55, 56, 57, 58, 59, 60, 61, 62, 63, 64, 65, 66, 67, 68, 69, 70, 71, 72, 73, 74] (by decide +kernel) (by decide +kernel)
set_option maxRecDepth 20000 in
theorem gX12_ship_X12_told : GoodIn wsX12_ship (wsV RX12 105 RX12 yX12_told wsX12_told) := goodIn_app (goodIn_of _ (by decide +kernel)) ggX12_ship_X12_told
set_option maxRecDepth 20000 in
theorem ggX12_ship_X12_isTerminal : GoodIn wsX12_ship wsX12_isTerminal := goodIn_r _ [18, 5, 6, 7, 8, 9, 22, 23, 24, 25, 26, 27, 28, 29, 30, 31, 32, 33, 34, 35, 36, 37, 38, 39, 40, 41, 42, 43, 44, 45, 46, 47, 48, 49, 50, 51, 52, 53, 54, 55, 56, 57, 58, 59, 60, 61, 62, 63, 64, 65, 66, 67, 68, 69, 70, 71, 72, 73, 74] (by decide +kernel) (by decide +kernel)
set_option maxRecDepth 20000 in
theorem gX12_ship_X12_isTerminal : GoodIn wsX12_ship (wsV RX12 128 RX12 yX12_isTerminal wsX12_isTerminal) := goodIn_app (goodIn_of _ (by decide +kernel)) ggX12_ship_X12_isTerminal
theorem dX12_ship_0 : decode cX12_ship 0 = .ok (.aload_n 0, 1) := by decide +kernel
theorem dX12_ship_1 : decode cX12_ship 1 = .ok (.iconst 0, 1) := by decide +kernel
theorem dX12_ship_2 : decode cX12_ship 2 = .ok (.putfield 91, 3) := by decide +kernel
theorem dX12_ship_5 : decode cX12_ship 5 = .ok (.iload_n 2, 1) := by decide +kernel
theorem dX12_ship_6 : decode cX12_ship 6 = .ok (.i2l, 1) := by decide +kernel
theorem dX12_ship_7 : decode cX12_ship 7 = .ok (.ldc2_w 122, 3) := by decide +kernel
theorem dX12_ship_10 : decode cX12_ship 10 = .ok (.ldc2_w 124, 3) := by decide +kernel
theorem dX12_ship_13 : decode cX12_ship 13 = .ok (.invokestatic 99, 3) := by decide +kernel
theorem dX12_ship_16 : decode cX12_ship 16 = .ok (.ifCond .eq 15, 3) := by decide +kernel
theorem dX12_ship_19 : decode cX12_ship 19 = .ok (.iload_n 3, 1) := by decide +kernel
theorem dX12_ship_20 : decode cX12_ship 20 = .ok (.i2l, 1) := by decide +kernel
theorem dX12_ship_21 : decode cX12_ship 21 = .ok (.lconst 1, 1) := by decide +kernel
theorem dX12_ship_22 : decode cX12_ship 22 = .ok (.ldc2_w 126, 3) := by decide +kernel
theorem dX12_ship_25 : decode cX12_ship 25 = .ok (.invokestatic 99, 3) := by decide +kernel
theorem dX12_ship_28 : decode cX12_ship 28 = .ok (.ifCond .ne 9, 3) := by decide +kernel
theorem dX12_ship_31 : decode cX12_ship 31 = .ok (.aload_n 0, 1) := by decide +kernel
theorem dX12_ship_32 : decode cX12_ship 32 = .ok (.iconst (-1), 1) := by decide +kernel
theorem dX12_ship_33 : decode cX12_ship 33 = .ok (.invokevirtual 105, 3) := by decide +kernel
theorem dX12_ship_36 : decode cX12_ship 36 = .ok (.ireturn, 1) := by decide +kernel
theorem dX12_ship_37 : decode cX12_ship 37 = .ok (.aload_n 0, 1) := by decide +kernel
theorem dX12_ship_38 : decode cX12_ship 38 = .ok (.iload_n 1, 1) := by decide +kernel
theorem dX12_ship_39 : decode cX12_ship 39 = .ok (.invokevirtual 128, 3) := by decide +kernel
theorem dX12_ship_42 : decode cX12_ship 42 = .ok (.ifCond .ne 10, 3) := by decide +kernel
theorem dX12_ship_45 : decode cX12_ship 45 = .ok (.aload_n 0, 1) := by decide +kernel
theorem dX12_ship_46 : decode cX12_ship 46 = .ok (.bipush (-2), 2) := by decide +kernel
theorem dX12_ship_48 : decode cX12_ship 48 = .ok (.invokevirtual 105, 3) := by decide +kernel
theorem dX12_ship_51 : decode cX12_ship 51 = .ok (.ireturn, 1) := by decide +kernel
set_option maxRecDepth 20000 in
theorem ggX12_way_X12_in : GoodIn wsX12_way wsX12_in := goodIn_r _ [7] (by decide +kernel) (by decide +kernel)
set_option maxRecDepth 20000 in
theorem gX12_way_X12_in : GoodIn wsX12_way (va_wsS RX12 99 yX12_in wsX12_in) := goodIn_app (goodIn_of _ (by decide +kernel)) ggX12_way_X12_in
set_option maxRecDepth 20000 in
theorem ggX12_way_X12_told : GoodIn wsX12_way wsX12_told := goodIn_r _ [11, 12, 17, 18, 19, 20, 21, 22, 23, 24, 25, 26, 27, 28, 29, 30, 31, 32, 33, 34, 35, 36, 37, 38, 39, 40, 41, 42, 43, 44, 45, 46, 47, 48, 49, 50, 51, 52, 53, 54, 55, 56, 57, 58, 59, 60, 61, 62, 63, 64, 65, 66, 67, 68, 69] (by decide +kernel) (by decide +kernel)
set_option maxRecDepth 20000 in
theorem gX12_way_X12_told : GoodIn wsX12_way (wsV RX12 105 RX12 yX12_told wsX12_told) := goodIn_app (goodIn_of _ (by decide +kernel)) ggX12_way_X12_told
set_option maxRecDepth 20000 in
theorem ggX12_way_X12_isTerminal : GoodIn wsX12_way wsX12_isTerminal := goodIn_r _ [16, 3, 4, 5, 6, 7, 17, 18, 19, 20, 21, 22, 23, 24, 25, 26, 27, 28, 29, 30, 31, 32, 33, 34, 35, 36, 37, 38, 39, 40, 41, 42, 43, 44, 45, 46, 47, 48, 49, 50, 51, 52, 53, 54, 55, 56, 57, 58, 59, 60, 61, 62, 63, 64, 65, 66, 67, 68, 69] (by decide +kernel) (by decide +kernel)
set_option maxRecDepth 20000 in
theorem gX12_way_X12_isTerminal : GoodIn wsX12_way (wsV RX12 128 RX12 yX12_isTerminal wsX12_isTerminal) := goodIn_app (goodIn_of _ (by decide +kernel)) ggX12_way_X12_isTerminal
theorem dX12_way_0 : decode cX12_way 0 = .ok (.aload_n 0, 1) := by decide +kernel
theorem dX12_way_1 : decode cX12_way 1 = .ok (.iconst 0, 1) := by decide +kernel
theorem dX12_way_2 : decode cX12_way 2 = .ok (.putfield 91, 3) := by decide +kernel
theorem dX12_way_5 : decode cX12_way 5 = .ok (.iload_n 3, 1) := by decide +kernel
theorem dX12_way_6 : decode cX12_way 6 = .ok (.i2l, 1) := by decide +kernel
theorem dX12_way_7 : decode cX12_way 7 = .ok (.lconst 1, 1) := by decide +kernel
theorem dX12_way_8 : decode cX12_way 8 = .ok (.ldc2_w 135, 3) := by decide +kernel
theorem dX12_way_11 : decode cX12_way 11 = .ok (.invokestatic 99, 3) := by decide +kernel
theorem dX12_way_14 : decode cX12_way 14 = .ok (.ifCond .ne 9, 3) := by decide +kernel
theorem dX12_way_17 : decode cX12_way 17 = .ok (.aload_n 0, 1) := by decide +kernel
theorem dX12_way_18 : decode cX12_way 18 = .ok (.iconst (-1), 1) := by decide +kernel
theorem dX12_way_19 : decode cX12_way 19 = .ok (.invokevirtual 105, 3) := by decide +kernel
theorem dX12_way_22 : decode cX12_way 22 = .ok (.ireturn, 1) := by decide +kernel
theorem dX12_way_23 : decode cX12_way 23 = .ok (.aload_n 0, 1) := by decide +kernel
theorem dX12_way_24 : decode cX12_way 24 = .ok (.iload_n 1, 1) := by decide +kernel
theorem dX12_way_25 : decode cX12_way 25 = .ok (.invokevirtual 128, 3) := by decide +kernel
theorem dX12_way_28 : decode cX12_way 28 = .ok (.ifCond .eq 11, 3) := by decide +kernel
theorem dX12_way_39 : decode cX12_way 39 = .ok (.aload_n 0, 1) := by decide +kernel
theorem dX12_way_40 : decode cX12_way 40 = .ok (.bipush (-2), 2) := by decide +kernel
theorem dX12_way_42 : decode cX12_way 42 = .ok (.invokevirtual 105, 3) := by decide +kernel
theorem dX12_way_45 : decode cX12_way 45 = .ok (.ireturn, 1) := by decide +kernel
set_option maxRecDepth 20000 in
theorem ggX12_tide_X12_in : GoodIn wsX12_tide wsX12_in := goodIn_r _ [8] (by decide +kernel) (by decide +kernel)
set_option maxRecDepth 20000 in
theorem gX12_tide_X12_in : GoodIn wsX12_tide (va_wsS RX12 99 yX12_in wsX12_in) := goodIn_app (goodIn_of _ (by decide +kernel)) ggX12_tide_X12_in
set_option maxRecDepth 20000 in
theorem ggX12_tide_X12_told : GoodIn wsX12_tide wsX12_told := goodIn_r _ [12, 13, 14, 15, 16, 17, 18, 19, 20, 21, 22, 23, 24, 25, 26, 27, 28, 29, 30, 31, 32, 33, 34, 35, 36, 37, 38, 39, 40, 41, 42, 43, 44, 45, 46, 47, 48, 49, 50, 51, 52, 53, 54, 55, 56, 57, 58, 59, 60, 61, 62, 63, 64, 65, 66] (by decide +kernel) (by decide +kernel)
set_option maxRecDepth 20000 in
theorem gX12_tide_X12_told : GoodIn wsX12_tide (wsV RX12 105 RX12 yX12_told wsX12_told) := goodIn_app (goodIn_of _ (by decide +kernel)) ggX12_tide_X12_told
theorem dX12_tide_0 : decode cX12_tide 0 = .ok (.aload_n 0, 1) := by decide +kernel
theorem dX12_tide_1 : decode cX12_tide 1 = .ok (.iconst 0, 1) := by decide +kernel
theorem dX12_tide_2 : decode cX12_tide 2 = .ok (.putfield 91, 3) := by decide +kernel
theorem dX12_tide_5 : decode cX12_tide 5 = .ok (.iload_n 1, 1) := by decide +kernel
theorem dX12_tide_6 : decode cX12_tide 6 = .ok (.i2l, 1) := by decide +kernel
theorem dX12_tide_7 : decode cX12_tide 7 = .ok (.lconst 0, 1) := by decide +kernel
theorem dX12_tide_8 : decode cX12_tide 8 = .ok (.ldc2_w 137, 3) := by decide +kernel
theorem dX12_tide_11 : decode cX12_tide 11 = .ok (.invokestatic 99, 3) := by decide +kernel
theorem dX12_tide_14 : decode cX12_tide 14 = .ok (.ifCond .eq 15, 3) := by decide +kernel
theorem dX12_tide_17 : decode cX12_tide 17 = .ok (.iload_n 2, 1) := by decide +kernel
theorem dX12_tide_18 : decode cX12_tide 18 = .ok (.i2l, 1) := by decide +kernel
theorem dX12_tide_19 : decode cX12_tide 19 = .ok (.lconst 0, 1) := by decide +kernel
theorem dX12_tide_20 : decode cX12_tide 20 = .ok (.ldc2_w 139, 3) := by decide +kernel
theorem dX12_tide_23 : decode cX12_tide 23 = .ok (.invokestatic 99, 3) := by decide +kernel
theorem dX12_tide_26 : decode cX12_tide 26 = .ok (.ifCond .ne 9, 3) := by decide +kernel
theorem dX12_tide_29 : decode cX12_tide 29 = .ok (.aload_n 0, 1) := by decide +kernel
theorem dX12_tide_30 : decode cX12_tide 30 = .ok (.iconst (-1), 1) := by decide +kernel
theorem dX12_tide_31 : decode cX12_tide 31 = .ok (.invokevirtual 105, 3) := by decide +kernel
theorem dX12_tide_34 : decode cX12_tide 34 = .ok (.ireturn, 1) := by decide +kernel
theorem dX12_tide_35 : decode cX12_tide 35 = .ok (.aload_n 0, 1) := by decide +kernel
theorem dX12_tide_36 : decode cX12_tide 36 = .ok (.getfield 7, 3) := by decide +kernel
theorem dX12_tide_39 : decode cX12_tide 39 = .ok (.bipush 122, 2) := by decide +kernel
theorem dX12_tide_41 : decode cX12_tide 41 = .ok (.iload_n 1, 1) := by decide +kernel
theorem dX12_tide_42 : decode cX12_tide 42 = .ok (.iadd, 1) := by decide +kernel
theorem dX12_tide_43 : decode cX12_tide 43 = .ok (.iload_n 2, 1) := by decide +kernel
theorem dX12_tide_44 : decode cX12_tide 44 = .ok (.iastore, 1) := by decide +kernel
theorem dX12_tide_45 : decode cX12_tide 45 = .ok (.aload_n 0, 1) := by decide +kernel
theorem dX12_tide_46 : decode cX12_tide 46 = .ok (.iconst 0, 1) := by decide +kernel
theorem dX12_tide_47 : decode cX12_tide 47 = .ok (.invokevirtual 105, 3) := by decide +kernel
theorem dX12_tide_50 : decode cX12_tide 50 = .ok (.ireturn, 1) := by decide +kernel
set_option maxRecDepth 20000 in
theorem ggX12_sea_X12_isDay : GoodIn wsX12_sea wsX12_isDay := goodIn_r _ [7, 8, 9, 10, 6, 11] (by decide +kernel) (by decide +kernel)
set_option maxRecDepth 20000 in
theorem gX12_sea_X12_isDay : GoodIn wsX12_sea (va_wsS RX12 141 yX12_isDay wsX12_isDay) := goodIn_app (goodIn_of _ (by decide +kernel)) ggX12_sea_X12_isDay
set_option maxRecDepth 20000 in
theorem ggX12_sea_X12_in : GoodIn wsX12_sea wsX12_in := goodIn_r _ [11] (by decide +kernel) (by decide +kernel)
set_option maxRecDepth 20000 in
theorem gX12_sea_X12_in : GoodIn wsX12_sea (va_wsS RX12 99 yX12_in wsX12_in) := goodIn_app (goodIn_of _ (by decide +kernel)) ggX12_sea_X12_in
set_option maxRecDepth 20000 in
theorem ggX12_sea_X12_told : GoodIn wsX12_sea wsX12_told := goodIn_r _ [15, 16, 17, 18, 19, 20, 21, 22, 23, 24, 25, 26, 27, 28, 29, 30, 31, 32, 33, 34, 35, 36, 37, 38, 39, 40, 41, 42, 43, 44, 45, 46, 47, 48, 49, 50, 51, 52, 53, 54, 55, 56, 57, 58, 59, 60, 61, 62, 63, 64, 65, 66, 67, 68, 69] (by decide +kernel) (by decide +kernel)
set_option maxRecDepth 20000 in
theorem gX12_sea_X12_told : GoodIn wsX12_sea (wsV RX12 105 RX12 yX12_told wsX12_told) := goodIn_app (goodIn_of _ (by decide +kernel)) ggX12_sea_X12_told
theorem dX12_sea_0 : decode cX12_sea 0 = .ok (.aload_n 0, 1) := by decide +kernel
theorem dX12_sea_1 : decode cX12_sea 1 = .ok (.iconst 0, 1) := by decide +kernel
theorem dX12_sea_2 : decode cX12_sea 2 = .ok (.putfield 91, 3) := by decide +kernel
theorem dX12_sea_5 : decode cX12_sea 5 = .ok (.iload_n 1, 1) := by decide +kernel
theorem dX12_sea_6 : decode cX12_sea 6 = .ok (.invokestatic 141, 3) := by decide +kernel
theorem dX12_sea_9 : decode cX12_sea 9 = .ok (.ifCond .eq 15, 3) := by decide +kernel
theorem dX12_sea_12 : decode cX12_sea 12 = .ok (.iload_n 2, 1) := by decide +kernel
theorem dX12_sea_13 : decode cX12_sea 13 = .ok (.i2l, 1) := by decide +kernel
theorem dX12_sea_14 : decode cX12_sea 14 = .ok (.lconst 0, 1) := by decide +kernel
theorem dX12_sea_15 : decode cX12_sea 15 = .ok (.ldc2_w 139, 3) := by decide +kernel
theorem dX12_sea_18 : decode cX12_sea 18 = .ok (.invokestatic 99, 3) := by decide +kernel
theorem dX12_sea_21 : decode cX12_sea 21 = .ok (.ifCond .ne 9, 3) := by decide +kernel
theorem dX12_sea_24 : decode cX12_sea 24 = .ok (.aload_n 0, 1) := by decide +kernel
theorem dX12_sea_25 : decode cX12_sea 25 = .ok (.iconst (-1), 1) := by decide +kernel
theorem dX12_sea_26 : decode cX12_sea 26 = .ok (.invokevirtual 105, 3) := by decide +kernel
theorem dX12_sea_29 : decode cX12_sea 29 = .ok (.ireturn, 1) := by decide +kernel
theorem dX12_sea_30 : decode cX12_sea 30 = .ok (.aload_n 0, 1) := by decide +kernel
theorem dX12_sea_31 : decode cX12_sea 31 = .ok (.getfield 7, 3) := by decide +kernel
theorem dX12_sea_34 : decode cX12_sea 34 = .ok (.sipush 147, 3) := by decide +kernel
theorem dX12_sea_37 : decode cX12_sea 37 = .ok (.iload_n 1, 1) := by decide +kernel
theorem dX12_sea_38 : decode cX12_sea 38 = .ok (.iadd, 1) := by decide +kernel
theorem dX12_sea_39 : decode cX12_sea 39 = .ok (.iload_n 2, 1) := by decide +kernel
theorem dX12_sea_40 : decode cX12_sea 40 = .ok (.iastore, 1) := by decide +kernel
theorem dX12_sea_41 : decode cX12_sea 41 = .ok (.aload_n 0, 1) := by decide +kernel
theorem dX12_sea_42 : decode cX12_sea 42 = .ok (.iconst 0, 1) := by decide +kernel
theorem dX12_sea_43 : decode cX12_sea 43 = .ok (.invokevirtual 105, 3) := by decide +kernel
theorem dX12_sea_46 : decode cX12_sea 46 = .ok (.ireturn, 1) := by decide +kernel
set_option maxRecDepth 20000 in
theorem ggX12_slot_X12_isHour : GoodIn wsX12_slot wsX12_isHour := goodIn_r _ [6, 7, 8, 9, 5, 10] (by decide +kernel) (by decide +kernel)
set_option maxRecDepth 20000 in
theorem gX12_slot_X12_isHour : GoodIn wsX12_slot (va_wsS RX12 144 yX12_isHour wsX12_isHour) := goodIn_app (goodIn_of _ (by decide +kernel)) ggX12_slot_X12_isHour
set_option maxRecDepth 20000 in
theorem ggX12_slot_X12_in : GoodIn wsX12_slot wsX12_in := goodIn_r _ [10] (by decide +kernel) (by decide +kernel)
set_option maxRecDepth 20000 in
theorem gX12_slot_X12_in : GoodIn wsX12_slot (va_wsS RX12 99 yX12_in wsX12_in) := goodIn_app (goodIn_of _ (by decide +kernel)) ggX12_slot_X12_in
set_option maxRecDepth 20000 in
theorem ggX12_slot_X12_told : GoodIn wsX12_slot wsX12_told := goodIn_r _ [14, 15, 28, 29, 30, 31, 32, 33, 34, 35, 36, 37, 38, 39, 40, 41, 42, 43, 44, 45, 46, 47, 48, 49, 50, 51, 52, 53, 54, 55, 56, 57, 58, 59, 60, 61, 62, 63, 64, 65, 66, 67, 68, 69, 70, 71, 72, 73, 74, 75, 76, 77, 78, 79, 80] (by decide +kernel) (by decide +kernel)
set_option maxRecDepth 20000 in
theorem gX12_slot_X12_told : GoodIn wsX12_slot (wsV RX12 105 RX12 yX12_told wsX12_told) := goodIn_app (goodIn_of _ (by decide +kernel)) ggX12_slot_X12_told
set_option maxRecDepth 20000 in
theorem ggX12_slot_X12_isTerminal : GoodIn wsX12_slot wsX12_isTerminal := goodIn_r _ [19, 2, 8, 9, 5, 10, 28, 29, 30, 31, 32, 33, 34, 35, 36, 37, 38, 39, 40, 41, 42, 43, 44, 45, 46, 47, 48, 49, 50, 51, 52, 53, 54, 55, 56, 57, 58, 59, 60, 61, 62, 63, 64, 65, 66, 67, 68, 69, 70, 71, 72, 73, 74, 75, 76, 77, 78, 79, 80] (by decide +kernel) (by decide +kernel)
set_option maxRecDepth 20000 in
theorem gX12_slot_X12_isTerminal : GoodIn wsX12_slot (wsV RX12 128 RX12 yX12_isTerminal wsX12_isTerminal) := goodIn_app (goodIn_of _ (by decide +kernel)) ggX12_slot_X12_isTerminal
theorem dX12_slot_0 : decode cX12_slot 0 = .ok (.aload_n 0, 1) := by decide +kernel
theorem dX12_slot_1 : decode cX12_slot 1 = .ok (.iconst 0, 1) := by decide +kernel
theorem dX12_slot_2 : decode cX12_slot 2 = .ok (.putfield 91, 3) := by decide +kernel
theorem dX12_slot_5 : decode cX12_slot 5 = .ok (.iload 4, 2) := by decide +kernel
theorem dX12_slot_7 : decode cX12_slot 7 = .ok (.invokestatic 144, 3) := by decide +kernel
theorem dX12_slot_10 : decode cX12_slot 10 = .ok (.ifCond .eq 15, 3) := by decide +kernel
theorem dX12_slot_13 : decode cX12_slot 13 = .ok (.iload_n 3, 1) := by decide +kernel
theorem dX12_slot_14 : decode cX12_slot 14 = .ok (.i2l, 1) := by decide +kernel
theorem dX12_slot_15 : decode cX12_slot 15 = .ok (.lconst 0, 1) := by decide +kernel
theorem dX12_slot_16 : decode cX12_slot 16 = .ok (.iload 4, 2) := by decide +kernel
theorem dX12_slot_18 : decode cX12_slot 18 = .ok (.i2l, 1) := by decide +kernel
theorem dX12_slot_19 : decode cX12_slot 19 = .ok (.invokestatic 99, 3) := by decide +kernel
theorem dX12_slot_22 : decode cX12_slot 22 = .ok (.ifCond .ne 9, 3) := by decide +kernel
theorem dX12_slot_25 : decode cX12_slot 25 = .ok (.aload_n 0, 1) := by decide +kernel
theorem dX12_slot_26 : decode cX12_slot 26 = .ok (.iconst (-1), 1) := by decide +kernel
theorem dX12_slot_27 : decode cX12_slot 27 = .ok (.invokevirtual 105, 3) := by decide +kernel
theorem dX12_slot_30 : decode cX12_slot 30 = .ok (.ireturn, 1) := by decide +kernel
theorem dX12_slot_31 : decode cX12_slot 31 = .ok (.aload_n 0, 1) := by decide +kernel
theorem dX12_slot_32 : decode cX12_slot 32 = .ok (.iload_n 1, 1) := by decide +kernel
theorem dX12_slot_33 : decode cX12_slot 33 = .ok (.invokevirtual 128, 3) := by decide +kernel
theorem dX12_slot_36 : decode cX12_slot 36 = .ok (.ifCond .eq 11, 3) := by decide +kernel
theorem dX12_slot_47 : decode cX12_slot 47 = .ok (.aload_n 0, 1) := by decide +kernel
theorem dX12_slot_48 : decode cX12_slot 48 = .ok (.bipush (-2), 2) := by decide +kernel
theorem dX12_slot_50 : decode cX12_slot 50 = .ok (.invokevirtual 105, 3) := by decide +kernel
theorem dX12_slot_53 : decode cX12_slot 53 = .ok (.ireturn, 1) := by decide +kernel
set_option maxRecDepth 20000 in
theorem ggX12_broken_X12_isHour : GoodIn wsX12_broken wsX12_isHour := goodIn_r _ [6, 7, 8, 9, 5, 10] (by decide +kernel) (by decide +kernel)
set_option maxRecDepth 20000 in
theorem gX12_broken_X12_isHour : GoodIn wsX12_broken (va_wsS RX12 144 yX12_isHour wsX12_isHour) := goodIn_app (goodIn_of _ (by decide +kernel)) ggX12_broken_X12_isHour
set_option maxRecDepth 20000 in
theorem ggX12_broken_X12_in : GoodIn wsX12_broken wsX12_in := goodIn_r _ [10] (by decide +kernel) (by decide +kernel)
set_option maxRecDepth 20000 in
theorem gX12_broken_X12_in : GoodIn wsX12_broken (va_wsS RX12 99 yX12_in wsX12_in) := goodIn_app (goodIn_of _ (by decide +kernel)) ggX12_broken_X12_in
set_option maxRecDepth 20000 in
theorem ggX12_broken_X12_told : GoodIn wsX12_broken wsX12_told := goodIn_r _ [14, 15, 20, 21, 22, 23, 24, 25, 26, 27, 28, 29, 30, 31, 32, 33, 34, 35, 36, 37, 38, 39, 40, 41, 42, 43, 44, 45, 46, 47, 48, 49, 50, 51, 52, 53, 54, 55, 56, 57, 58, 59, 60, 61, 62, 63, 64, 65, 66, 67, 68, 69, 70, 71, 72] (by decide +kernel) (by decide +kernel)
set_option maxRecDepth 20000 in
theorem gX12_broken_X12_told : GoodIn wsX12_broken (wsV RX12 105 RX12 yX12_told wsX12_told) := goodIn_app (goodIn_of _ (by decide +kernel)) ggX12_broken_X12_told
set_option maxRecDepth 20000 in
theorem ggX12_broken_X12_isTerminal : GoodIn wsX12_broken wsX12_isTerminal := goodIn_r _ [19, 2, 8, 9, 5, 10, 20, 21, 22, 23, 24, 25, 26, 27, 28, 29, 30, 31, 32, 33, 34, 35, 36, 37, 38, 39, 40, 41, 42, 43, 44, 45, 46, 47, 48, 49, 50, 51, 52, 53, 54, 55, 56, 57, 58, 59, 60, 61, 62, 63, 64, 65, 66, 67, 68, 69, 70, 71, 72] (by decide +kernel) (by decide +kernel)
set_option maxRecDepth 20000 in
theorem gX12_broken_X12_isTerminal : GoodIn wsX12_broken (wsV RX12 128 RX12 yX12_isTerminal wsX12_isTerminal) := goodIn_app (goodIn_of _ (by decide +kernel)) ggX12_broken_X12_isTerminal
theorem dX12_broken_0 : decode cX12_broken 0 = .ok (.aload_n 0, 1) := by decide +kernel
theorem dX12_broken_1 : decode cX12_broken 1 = .ok (.iconst 0, 1) := by decide +kernel
theorem dX12_broken_2 : decode cX12_broken 2 = .ok (.putfield 91, 3) := by decide +kernel
theorem dX12_broken_5 : decode cX12_broken 5 = .ok (.iload_n 3, 1) := by decide +kernel
theorem dX12_broken_6 : decode cX12_broken 6 = .ok (.invokestatic 144, 3) := by decide +kernel
theorem dX12_broken_9 : decode cX12_broken 9 = .ok (.ifCond .eq 14, 3) := by decide +kernel
theorem dX12_broken_12 : decode cX12_broken 12 = .ok (.iload_n 2, 1) := by decide +kernel
theorem dX12_broken_13 : decode cX12_broken 13 = .ok (.i2l, 1) := by decide +kernel
theorem dX12_broken_14 : decode cX12_broken 14 = .ok (.lconst 0, 1) := by decide +kernel
theorem dX12_broken_15 : decode cX12_broken 15 = .ok (.iload_n 3, 1) := by decide +kernel
theorem dX12_broken_16 : decode cX12_broken 16 = .ok (.i2l, 1) := by decide +kernel
theorem dX12_broken_17 : decode cX12_broken 17 = .ok (.invokestatic 99, 3) := by decide +kernel
theorem dX12_broken_20 : decode cX12_broken 20 = .ok (.ifCond .ne 9, 3) := by decide +kernel
theorem dX12_broken_23 : decode cX12_broken 23 = .ok (.aload_n 0, 1) := by decide +kernel
theorem dX12_broken_24 : decode cX12_broken 24 = .ok (.iconst (-1), 1) := by decide +kernel
theorem dX12_broken_25 : decode cX12_broken 25 = .ok (.invokevirtual 105, 3) := by decide +kernel
theorem dX12_broken_28 : decode cX12_broken 28 = .ok (.ireturn, 1) := by decide +kernel
theorem dX12_broken_29 : decode cX12_broken 29 = .ok (.aload_n 0, 1) := by decide +kernel
theorem dX12_broken_30 : decode cX12_broken 30 = .ok (.iload_n 1, 1) := by decide +kernel
theorem dX12_broken_31 : decode cX12_broken 31 = .ok (.invokevirtual 128, 3) := by decide +kernel
theorem dX12_broken_34 : decode cX12_broken 34 = .ok (.ifCond .ne 10, 3) := by decide +kernel
theorem dX12_broken_37 : decode cX12_broken 37 = .ok (.aload_n 0, 1) := by decide +kernel
theorem dX12_broken_38 : decode cX12_broken 38 = .ok (.bipush (-2), 2) := by decide +kernel
theorem dX12_broken_40 : decode cX12_broken 40 = .ok (.invokevirtual 105, 3) := by decide +kernel
theorem dX12_broken_43 : decode cX12_broken 43 = .ok (.ireturn, 1) := by decide +kernel
set_option maxRecDepth 20000 in
theorem ggX12_terms_X12_in : GoodIn wsX12_terms wsX12_in := goodIn_r _ [8] (by decide +kernel) (by decide +kernel)
set_option maxRecDepth 20000 in
theorem gX12_terms_X12_in : GoodIn wsX12_terms (va_wsS RX12 99 yX12_in wsX12_in) := goodIn_app (goodIn_of _ (by decide +kernel)) ggX12_terms_X12_in
set_option maxRecDepth 20000 in
theorem ggX12_terms_X12_told : GoodIn wsX12_terms wsX12_told := goodIn_r _ [12, 13, 14, 15, 16, 17, 18, 19, 20, 21, 22, 23, 24, 25, 26, 27, 28, 29, 30, 31, 32, 33, 34, 35, 36, 37, 38, 39, 40, 41, 42, 43, 44, 45, 46, 47, 48, 49, 50, 51, 52, 53, 54, 55, 56, 57, 58, 59, 60, 61, 62, 63, 64, 65, 66] (by decide +kernel) (by decide +kernel)
set_option maxRecDepth 20000 in
theorem gX12_terms_X12_told : GoodIn wsX12_terms (wsV RX12 105 RX12 yX12_told wsX12_told) := goodIn_app (goodIn_of _ (by decide +kernel)) ggX12_terms_X12_told
theorem dX12_terms_0 : decode cX12_terms 0 = .ok (.aload_n 0, 1) := by decide +kernel
theorem dX12_terms_1 : decode cX12_terms 1 = .ok (.iconst 0, 1) := by decide +kernel
theorem dX12_terms_2 : decode cX12_terms 2 = .ok (.putfield 91, 3) := by decide +kernel
theorem dX12_terms_5 : decode cX12_terms 5 = .ok (.iload_n 1, 1) := by decide +kernel
theorem dX12_terms_6 : decode cX12_terms 6 = .ok (.i2l, 1) := by decide +kernel
theorem dX12_terms_7 : decode cX12_terms 7 = .ok (.lconst 0, 1) := by decide +kernel
theorem dX12_terms_8 : decode cX12_terms 8 = .ok (.ldc2_w 150, 3) := by decide +kernel
theorem dX12_terms_11 : decode cX12_terms 11 = .ok (.invokestatic 99, 3) := by decide +kernel
theorem dX12_terms_14 : decode cX12_terms 14 = .ok (.ifCond .eq 15, 3) := by decide +kernel
theorem dX12_terms_17 : decode cX12_terms 17 = .ok (.iload_n 2, 1) := by decide +kernel
theorem dX12_terms_18 : decode cX12_terms 18 = .ok (.i2l, 1) := by decide +kernel
theorem dX12_terms_19 : decode cX12_terms 19 = .ok (.lconst 1, 1) := by decide +kernel
theorem dX12_terms_20 : decode cX12_terms 20 = .ok (.ldc2_w 122, 3) := by decide +kernel
theorem dX12_terms_23 : decode cX12_terms 23 = .ok (.invokestatic 99, 3) := by decide +kernel
theorem dX12_terms_26 : decode cX12_terms 26 = .ok (.ifCond .ne 9, 3) := by decide +kernel
theorem dX12_terms_29 : decode cX12_terms 29 = .ok (.aload_n 0, 1) := by decide +kernel
theorem dX12_terms_30 : decode cX12_terms 30 = .ok (.iconst (-1), 1) := by decide +kernel
theorem dX12_terms_31 : decode cX12_terms 31 = .ok (.invokevirtual 105, 3) := by decide +kernel
theorem dX12_terms_34 : decode cX12_terms 34 = .ok (.ireturn, 1) := by decide +kernel
theorem dX12_terms_35 : decode cX12_terms 35 = .ok (.aload_n 0, 1) := by decide +kernel
theorem dX12_terms_36 : decode cX12_terms 36 = .ok (.getfield 7, 3) := by decide +kernel
theorem dX12_terms_39 : decode cX12_terms 39 = .ok (.bipush 12, 2) := by decide +kernel
theorem dX12_terms_41 : decode cX12_terms 41 = .ok (.iload_n 1, 1) := by decide +kernel
theorem dX12_terms_42 : decode cX12_terms 42 = .ok (.iastore, 1) := by decide +kernel
theorem dX12_terms_43 : decode cX12_terms 43 = .ok (.aload_n 0, 1) := by decide +kernel
theorem dX12_terms_44 : decode cX12_terms 44 = .ok (.getfield 7, 3) := by decide +kernel
theorem dX12_terms_47 : decode cX12_terms 47 = .ok (.bipush 13, 2) := by decide +kernel
theorem dX12_terms_49 : decode cX12_terms 49 = .ok (.iload_n 2, 1) := by decide +kernel
theorem dX12_terms_50 : decode cX12_terms 50 = .ok (.iastore, 1) := by decide +kernel
theorem dX12_terms_51 : decode cX12_terms 51 = .ok (.aload_n 0, 1) := by decide +kernel
theorem dX12_terms_52 : decode cX12_terms 52 = .ok (.iconst 0, 1) := by decide +kernel
theorem dX12_terms_53 : decode cX12_terms 53 = .ok (.invokevirtual 105, 3) := by decide +kernel
theorem dX12_terms_56 : decode cX12_terms 56 = .ok (.ireturn, 1) := by decide +kernel
set_option maxRecDepth 20000 in
theorem ggX12_order_X12_in : GoodIn wsX12_order wsX12_in := goodIn_r _ [8] (by decide +kernel) (by decide +kernel)
set_option maxRecDepth 20000 in
theorem gX12_order_X12_in : GoodIn wsX12_order (va_wsS RX12 99 yX12_in wsX12_in) := goodIn_app (goodIn_of _ (by decide +kernel)) ggX12_order_X12_in
set_option maxRecDepth 20000 in
theorem ggX12_order_X12_isHour : GoodIn wsX12_order wsX12_isHour := goodIn_r _ [11, 12, 5, 6, 7, 8] (by decide +kernel) (by decide +kernel)
set_option maxRecDepth 20000 in
theorem gX12_order_X12_isHour : GoodIn wsX12_order (va_wsS RX12 144 yX12_isHour wsX12_isHour) := goodIn_app (goodIn_of _ (by decide +kernel)) ggX12_order_X12_isHour
set_option maxRecDepth 20000 in
theorem ggX12_order_X12_told : GoodIn wsX12_order wsX12_told := goodIn_r _ [16, 17, 33, 34, 35, 36, 37, 38, 39, 40, 41, 42, 43, 44, 45, 46, 47, 48, 49, 50, 51, 52, 53, 54, 55, 56, 57, 58, 59, 60, 61, 62, 63, 64, 65, 66, 67, 68, 69, 70, 71, 72, 73, 74, 75, 76, 77, 78, 79, 80, 81, 82, 83, 84, 85] (by decide +kernel) (by decide +kernel)
set_option maxRecDepth 20000 in
theorem gX12_order_X12_told : GoodIn wsX12_order (wsV RX12 105 RX12 yX12_told wsX12_told) := goodIn_app (goodIn_of _ (by decide +kernel)) ggX12_order_X12_told
set_option maxRecDepth 20000 in
theorem ggX12_order_X12_isShip : GoodIn wsX12_order wsX12_isShip := goodIn_r _ [21, 4, 5, 6, 7, 8, 33, 34, 35, 36, 37, 38, 39, 40, 41, 42, 43, 44, 45, 46, 47, 48, 49, 50, 51, 52, 53, 54, 55, 56, 57, 58, 59, 60, 61, 62, 63, 64, 65, 66, 67, 68, 69, 70, 71, 72, 73, 74, 75, 76, 77, 78, 79, 80, 81, 82, 83, 84, 85] (by decide +kernel) (by decide +kernel)
set_option maxRecDepth 20000 in
theorem gX12_order_X12_isShip : GoodIn wsX12_order (wsV RX12 147 RX12 yX12_isShip wsX12_isShip) := goodIn_app (goodIn_of _ (by decide +kernel)) ggX12_order_X12_isShip
theorem dX12_order_0 : decode cX12_order 0 = .ok (.aload_n 0, 1) := by decide +kernel
theorem dX12_order_1 : decode cX12_order 1 = .ok (.iconst 0, 1) := by decide +kernel
theorem dX12_order_2 : decode cX12_order 2 = .ok (.putfield 91, 3) := by decide +kernel
theorem dX12_order_5 : decode cX12_order 5 = .ok (.iload_n 2, 1) := by decide +kernel
theorem dX12_order_6 : decode cX12_order 6 = .ok (.i2l, 1) := by decide +kernel
theorem dX12_order_7 : decode cX12_order 7 = .ok (.lconst 0, 1) := by decide +kernel
theorem dX12_order_8 : decode cX12_order 8 = .ok (.ldc2_w 152, 3) := by decide +kernel
theorem dX12_order_11 : decode cX12_order 11 = .ok (.invokestatic 99, 3) := by decide +kernel
theorem dX12_order_14 : decode cX12_order 14 = .ok (.ifCond .eq 38, 3) := by decide +kernel
theorem dX12_order_17 : decode cX12_order 17 = .ok (.iload_n 2, 1) := by decide +kernel
theorem dX12_order_18 : decode cX12_order 18 = .ok (.ifCond .eq 30, 3) := by decide +kernel
theorem dX12_order_21 : decode cX12_order 21 = .ok (.iload_n 2, 1) := by decide +kernel
theorem dX12_order_22 : decode cX12_order 22 = .ok (.iconst 3, 1) := by decide +kernel
theorem dX12_order_23 : decode cX12_order 23 = .ok (.if_icmp .ne 13, 3) := by decide +kernel
theorem dX12_order_26 : decode cX12_order 26 = .ok (.iload_n 3, 1) := by decide +kernel
theorem dX12_order_27 : decode cX12_order 27 = .ok (.invokestatic 144, 3) := by decide +kernel
theorem dX12_order_30 : decode cX12_order 30 = .ok (.ifCond .eq 22, 3) := by decide +kernel
theorem dX12_order_33 : decode cX12_order 33 = .ok (.goto 15, 3) := by decide +kernel
theorem dX12_order_36 : decode cX12_order 36 = .ok (.iload_n 3, 1) := by decide +kernel
theorem dX12_order_37 : decode cX12_order 37 = .ok (.i2l, 1) := by decide +kernel
theorem dX12_order_38 : decode cX12_order 38 = .ok (.lconst 1, 1) := by decide +kernel
theorem dX12_order_39 : decode cX12_order 39 = .ok (.ldc2_w 124, 3) := by decide +kernel
theorem dX12_order_42 : decode cX12_order 42 = .ok (.invokestatic 99, 3) := by decide +kernel
theorem dX12_order_45 : decode cX12_order 45 = .ok (.ifCond .eq 7, 3) := by decide +kernel
theorem dX12_order_48 : decode cX12_order 48 = .ok (.iconst 1, 1) := by decide +kernel
theorem dX12_order_49 : decode cX12_order 49 = .ok (.goto 4, 3) := by decide +kernel
theorem dX12_order_52 : decode cX12_order 52 = .ok (.iconst 0, 1) := by decide +kernel
theorem dX12_order_53 : decode cX12_order 53 = .ok (.istore 4, 2) := by decide +kernel
theorem dX12_order_55 : decode cX12_order 55 = .ok (.iload 4, 2) := by decide +kernel
theorem dX12_order_57 : decode cX12_order 57 = .ok (.ifCond .ne 9, 3) := by decide +kernel
theorem dX12_order_60 : decode cX12_order 60 = .ok (.aload_n 0, 1) := by decide +kernel
theorem dX12_order_61 : decode cX12_order 61 = .ok (.iconst (-1), 1) := by decide +kernel
theorem dX12_order_62 : decode cX12_order 62 = .ok (.invokevirtual 105, 3) := by decide +kernel
theorem dX12_order_65 : decode cX12_order 65 = .ok (.ireturn, 1) := by decide +kernel
theorem dX12_order_66 : decode cX12_order 66 = .ok (.aload_n 0, 1) := by decide +kernel
theorem dX12_order_67 : decode cX12_order 67 = .ok (.iload_n 1, 1) := by decide +kernel
theorem dX12_order_68 : decode cX12_order 68 = .ok (.invokevirtual 147, 3) := by decide +kernel
theorem dX12_order_71 : decode cX12_order 71 = .ok (.ifCond .eq 15, 3) := by decide +kernel
theorem dX12_order_86 : decode cX12_order 86 = .ok (.aload_n 0, 1) := by decide +kernel
theorem dX12_order_87 : decode cX12_order 87 = .ok (.bipush (-2), 2) := by decide +kernel
theorem dX12_order_89 : decode cX12_order 89 = .ok (.invokevirtual 105, 3) := by decide +kernel
theorem dX12_order_92 : decode cX12_order 92 = .ok (.ireturn, 1) := by decide +kernel
set_option maxRecDepth 20000 in
theorem ggX12_of_X12_isShip : GoodIn wsX12_of wsX12_isShip := goodIn_r _ [7, 2, 8, 9, 6, 10, 28, 29, 30, 31, 32, 33, 34, 35, 36, 37, 38, 39, 40, 41, 42, 43, 44, 45, 46, 47, 48, 49, 50, 51, 52, 53, 54, 55, 56, 57, 58, 59, 60, 61, 62, 63, 64, 65, 66, 67, 68, 69, 70, 71, 72, 73, 74, 75, 76, 77, 78, 79, 80] (by decide +kernel) (by decide +kernel)
set_option maxRecDepth 20000 in
theorem gX12_of_X12_isShip : GoodIn wsX12_of (wsV RX12 147 RX12 yX12_isShip wsX12_isShip) := goodIn_app (goodIn_of _ (by decide +kernel)) ggX12_of_X12_isShip
theorem dX12_of_0 : decode cX12_of 0 = .ok (.aload_n 0, 1) := by decide +kernel
theorem dX12_of_1 : decode cX12_of 1 = .ok (.iconst 0, 1) := by decide +kernel
theorem dX12_of_2 : decode cX12_of 2 = .ok (.putfield 91, 3) := by decide +kernel
theorem dX12_of_5 : decode cX12_of 5 = .ok (.aload_n 0, 1) := by decide +kernel
theorem dX12_of_6 : decode cX12_of 6 = .ok (.iload_n 1, 1) := by decide +kernel
theorem dX12_of_7 : decode cX12_of 7 = .ok (.invokevirtual 147, 3) := by decide +kernel
theorem dX12_of_10 : decode cX12_of 10 = .ok (.ifCond .ne 5, 3) := by decide +kernel
theorem dX12_of_13 : decode cX12_of 13 = .ok (.iconst (-1), 1) := by decide +kernel
theorem dX12_of_14 : decode cX12_of 14 = .ok (.ireturn, 1) := by decide +kernel
set_option maxRecDepth 20000 in
theorem ggX12_part_X12_isShip : GoodIn wsX12_part wsX12_isShip := goodIn_r _ [7, 2, 8, 9, 6, 10, 18, 19, 20, 21, 22, 23, 24, 25, 26, 27, 28, 29, 30, 31, 32, 33, 34, 35, 36, 37, 38, 39, 40, 41, 42, 43, 44, 45, 46, 47, 48, 49, 50, 51, 52, 53, 54, 55, 56, 57, 58, 59, 60, 61, 62, 63, 64, 65, 66, 67, 68, 69, 70] (by decide +kernel) (by decide +kernel)
set_option maxRecDepth 20000 in
theorem gX12_part_X12_isShip : GoodIn wsX12_part (wsV RX12 147 RX12 yX12_isShip wsX12_isShip) := goodIn_app (goodIn_of _ (by decide +kernel)) ggX12_part_X12_isShip
theorem dX12_part_0 : decode cX12_part 0 = .ok (.aload_n 0, 1) := by decide +kernel
theorem dX12_part_1 : decode cX12_part 1 = .ok (.iconst 0, 1) := by decide +kernel
theorem dX12_part_2 : decode cX12_part 2 = .ok (.putfield 91, 3) := by decide +kernel
theorem dX12_part_5 : decode cX12_part 5 = .ok (.aload_n 0, 1) := by decide +kernel
theorem dX12_part_6 : decode cX12_part 6 = .ok (.iload_n 1, 1) := by decide +kernel
theorem dX12_part_7 : decode cX12_part 7 = .ok (.invokevirtual 147, 3) := by decide +kernel
theorem dX12_part_10 : decode cX12_part 10 = .ok (.ifCond .eq 28, 3) := by decide +kernel
theorem dX12_part_38 : decode cX12_part 38 = .ok (.iconst (-1), 1) := by decide +kernel
theorem dX12_part_39 : decode cX12_part 39 = .ok (.ireturn, 1) := by decide +kernel
set_option maxRecDepth 20000 in
theorem ggX12_book_X12_isShip : GoodIn wsX12_book wsX12_isShip := goodIn_r _ [9, 3, 10, 11, 8, 12, 16, 17, 18, 19, 20, 21, 22, 23, 24, 25, 26, 27, 28, 29, 30, 31, 32, 33, 34, 35, 36, 37, 38, 39, 40, 41, 42, 43, 44, 45, 46, 47, 48, 49, 50, 51, 52, 53, 54, 55, 56, 57, 58, 59, 60, 61, 62, 63, 64, 65, 66, 67, 68] (by decide +kernel) (by decide +kernel)
set_option maxRecDepth 20000 in
theorem gX12_book_X12_isShip : GoodIn wsX12_book (wsV RX12 147 RX12 yX12_isShip wsX12_isShip) := goodIn_app (goodIn_of _ (by decide +kernel)) ggX12_book_X12_isShip
theorem dX12_book_0 : decode cX12_book 0 = .ok (.aload_n 0, 1) := by decide +kernel
theorem dX12_book_1 : decode cX12_book 1 = .ok (.iconst 0, 1) := by decide +kernel
theorem dX12_book_2 : decode cX12_book 2 = .ok (.putfield 91, 3) := by decide +kernel
theorem dX12_book_5 : decode cX12_book 5 = .ok (.aload_n 0, 1) := by decide +kernel
theorem dX12_book_6 : decode cX12_book 6 = .ok (.iload_n 1, 1) := by decide +kernel
theorem dX12_book_7 : decode cX12_book 7 = .ok (.invokevirtual 147, 3) := by decide +kernel
theorem dX12_book_10 : decode cX12_book 10 = .ok (.ifCond .eq 33, 3) := by decide +kernel
theorem dX12_book_43 : decode cX12_book 43 = .ok (.ldc2_w 158, 3) := by decide +kernel
theorem dX12_book_46 : decode cX12_book 46 = .ok (.lreturn, 1) := by decide +kernel
set_option maxRecDepth 20000 in
theorem ggX12_store_X12_isTerminal : GoodIn wsX12_store wsX12_isTerminal := goodIn_r _ [7, 2, 8, 9, 6, 10, 14, 15, 16, 17, 18, 19, 20, 21, 22, 23, 24, 25, 26, 27, 28, 29, 30, 31, 32, 33, 34, 35, 36, 37, 38, 39, 40, 41, 42, 43, 44, 45, 46, 47, 48, 49, 50, 51, 52, 53, 54, 55, 56, 57, 58, 59, 60, 61, 62, 63, 64, 65, 66] (by decide +kernel) (by decide +kernel)
set_option maxRecDepth 20000 in
theorem gX12_store_X12_isTerminal : GoodIn wsX12_store (wsV RX12 128 RX12 yX12_isTerminal wsX12_isTerminal) := goodIn_app (goodIn_of _ (by decide +kernel)) ggX12_store_X12_isTerminal
theorem dX12_store_0 : decode cX12_store 0 = .ok (.aload_n 0, 1) := by decide +kernel
theorem dX12_store_1 : decode cX12_store 1 = .ok (.iconst 0, 1) := by decide +kernel
theorem dX12_store_2 : decode cX12_store 2 = .ok (.putfield 91, 3) := by decide +kernel
theorem dX12_store_5 : decode cX12_store 5 = .ok (.aload_n 0, 1) := by decide +kernel
theorem dX12_store_6 : decode cX12_store 6 = .ok (.iload_n 1, 1) := by decide +kernel
theorem dX12_store_7 : decode cX12_store 7 = .ok (.invokevirtual 128, 3) := by decide +kernel
theorem dX12_store_10 : decode cX12_store 10 = .ok (.ifCond .eq 15, 3) := by decide +kernel
theorem dX12_store_25 : decode cX12_store 25 = .ok (.iconst (-1), 1) := by decide +kernel
theorem dX12_store_26 : decode cX12_store 26 = .ok (.ireturn, 1) := by decide +kernel
set_option maxRecDepth 20000 in
theorem ggX12_isLanding_X12_in : GoodIn wsX12_isLanding wsX12_in := goodIn_r _ [5] (by decide +kernel) (by decide +kernel)
set_option maxRecDepth 20000 in
theorem gX12_isLanding_X12_in : GoodIn wsX12_isLanding (va_wsS RX12 99 yX12_in wsX12_in) := goodIn_app (goodIn_of _ (by decide +kernel)) ggX12_isLanding_X12_in
theorem dX12_isLanding_0 : decode cX12_isLanding 0 = .ok (.iload_n 1, 1) := by decide +kernel
theorem dX12_isLanding_1 : decode cX12_isLanding 1 = .ok (.i2l, 1) := by decide +kernel
theorem dX12_isLanding_2 : decode cX12_isLanding 2 = .ok (.lconst 0, 1) := by decide +kernel
theorem dX12_isLanding_3 : decode cX12_isLanding 3 = .ok (.aload_n 0, 1) := by decide +kernel
theorem dX12_isLanding_4 : decode cX12_isLanding 4 = .ok (.getfield 7, 3) := by decide +kernel
theorem dX12_isLanding_7 : decode cX12_isLanding 7 = .ok (.iconst 5, 1) := by decide +kernel
theorem dX12_isLanding_8 : decode cX12_isLanding 8 = .ok (.iaload, 1) := by decide +kernel
theorem dX12_isLanding_9 : decode cX12_isLanding 9 = .ok (.i2l, 1) := by decide +kernel
theorem dX12_isLanding_10 : decode cX12_isLanding 10 = .ok (.lconst 1, 1) := by decide +kernel
theorem dX12_isLanding_11 : decode cX12_isLanding 11 = .ok (.lsub, 1) := by decide +kernel
theorem dX12_isLanding_12 : decode cX12_isLanding 12 = .ok (.invokestatic 99, 3) := by decide +kernel
theorem dX12_isLanding_15 : decode cX12_isLanding 15 = .ok (.ireturn, 1) := by decide +kernel
set_option maxRecDepth 20000 in
theorem ggX12_landing_X12_isLanding : GoodIn wsX12_landing wsX12_isLanding := goodIn_r _ [8, 3, 9, 10, 7, 11, 22, 23, 24, 25, 26, 27, 28, 29, 30, 31, 32, 33, 34, 35, 36, 37, 38, 39, 40, 41, 42, 43, 44, 45, 46, 47, 48, 49, 50, 51, 52, 53, 54, 55, 56, 57, 58, 59, 60, 61, 62, 63, 64, 65, 66, 67, 68, 69, 70, 71, 72, 73, 74] (by decide +kernel) (by decide +kernel)
set_option maxRecDepth 20000 in
theorem gX12_landing_X12_isLanding : GoodIn wsX12_landing (wsV RX12 237 RX12 yX12_isLanding wsX12_isLanding) := goodIn_app (goodIn_of _ (by decide +kernel)) ggX12_landing_X12_isLanding
theorem dX12_landing_0 : decode cX12_landing 0 = .ok (.aload_n 0, 1) := by decide +kernel
theorem dX12_landing_1 : decode cX12_landing 1 = .ok (.iconst 0, 1) := by decide +kernel
theorem dX12_landing_2 : decode cX12_landing 2 = .ok (.putfield 91, 3) := by decide +kernel
theorem dX12_landing_5 : decode cX12_landing 5 = .ok (.aload_n 0, 1) := by decide +kernel
theorem dX12_landing_6 : decode cX12_landing 6 = .ok (.iload_n 1, 1) := by decide +kernel
theorem dX12_landing_7 : decode cX12_landing 7 = .ok (.invokevirtual 237, 3) := by decide +kernel
theorem dX12_landing_10 : decode cX12_landing 10 = .ok (.ifCond .eq 15, 3) := by decide +kernel
theorem dX12_landing_25 : decode cX12_landing 25 = .ok (.iconst (-1), 1) := by decide +kernel
theorem dX12_landing_26 : decode cX12_landing 26 = .ok (.ireturn, 1) := by decide +kernel
set_option maxRecDepth 20000 in
theorem ggX12_led_X12_isLanding : GoodIn wsX12_led wsX12_isLanding := goodIn_r _ [7, 2, 8, 9, 6, 10, 18, 19, 20, 21, 22, 23, 24, 25, 26, 27, 28, 29, 30, 31, 32, 33, 34, 35, 36, 37, 38, 39, 40, 41, 42, 43, 44, 45, 46, 47, 48, 49, 50, 51, 52, 53, 54, 55, 56, 57, 58, 59, 60, 61, 62, 63, 64, 65, 66, 67, 68, 69, 70] (by decide +kernel) (by decide +kernel)
set_option maxRecDepth 20000 in
theorem gX12_led_X12_isLanding : GoodIn wsX12_led (wsV RX12 237 RX12 yX12_isLanding wsX12_isLanding) := goodIn_app (goodIn_of _ (by decide +kernel)) ggX12_led_X12_isLanding
theorem dX12_led_0 : decode cX12_led 0 = .ok (.aload_n 0, 1) := by decide +kernel
theorem dX12_led_1 : decode cX12_led 1 = .ok (.iconst 0, 1) := by decide +kernel
theorem dX12_led_2 : decode cX12_led 2 = .ok (.putfield 91, 3) := by decide +kernel
theorem dX12_led_5 : decode cX12_led 5 = .ok (.aload_n 0, 1) := by decide +kernel
theorem dX12_led_6 : decode cX12_led 6 = .ok (.iload_n 1, 1) := by decide +kernel
theorem dX12_led_7 : decode cX12_led 7 = .ok (.invokevirtual 237, 3) := by decide +kernel
theorem dX12_led_10 : decode cX12_led 10 = .ok (.ifCond .eq 27, 3) := by decide +kernel
theorem dX12_led_37 : decode cX12_led 37 = .ok (.iconst (-1), 1) := by decide +kernel
theorem dX12_led_38 : decode cX12_led 38 = .ok (.ireturn, 1) := by decide +kernel
set_option maxRecDepth 20000 in
theorem ggX12_heat_X12_in : GoodIn wsX12_heat wsX12_in := goodIn_r _ [8] (by decide +kernel) (by decide +kernel)
set_option maxRecDepth 20000 in
theorem gX12_heat_X12_in : GoodIn wsX12_heat (va_wsS RX12 99 yX12_in wsX12_in) := goodIn_app (goodIn_of _ (by decide +kernel)) ggX12_heat_X12_in
set_option maxRecDepth 20000 in
theorem ggX12_heat_X12_told : GoodIn wsX12_heat wsX12_told := goodIn_r _ [12, 13, 21, 22, 23, 24, 25, 26, 27, 28, 29, 30, 31, 32, 33, 34, 35, 36, 37, 38, 39, 40, 41, 42, 43, 44, 45, 46, 47, 48, 49, 50, 51, 52, 53, 54, 55, 56, 57, 58, 59, 60, 61, 62, 63, 64, 65, 66, 67, 68, 69, 70, 71, 72, 73] (by decide +kernel) (by decide +kernel)
set_option maxRecDepth 20000 in
theorem gX12_heat_X12_told : GoodIn wsX12_heat (wsV RX12 105 RX12 yX12_told wsX12_told) := goodIn_app (goodIn_of _ (by decide +kernel)) ggX12_heat_X12_told
set_option maxRecDepth 20000 in
theorem ggX12_heat_X12_isTerminal : GoodIn wsX12_heat wsX12_isTerminal := goodIn_r _ [17, 4, 5, 6, 7, 8, 21, 22, 23, 24, 25, 26, 27, 28, 29, 30, 31, 32, 33, 34, 35, 36, 37, 38, 39, 40, 41, 42, 43, 44, 45, 46, 47, 48, 49, 50, 51, 52, 53, 54, 55, 56, 57, 58, 59, 60, 61, 62, 63, 64, 65, 66, 67, 68, 69, 70, 71, 72, 73] (by decide +kernel) (by decide +kernel)
set_option maxRecDepth 20000 in
theorem gX12_heat_X12_isTerminal : GoodIn wsX12_heat (wsV RX12 128 RX12 yX12_isTerminal wsX12_isTerminal) := goodIn_app (goodIn_of _ (by decide +kernel)) ggX12_heat_X12_isTerminal
theorem dX12_heat_0 : decode cX12_heat 0 = .ok (.aload_n 0, 1) := by decide +kernel
theorem dX12_heat_1 : decode cX12_heat 1 = .ok (.iconst 0, 1) := by decide +kernel
theorem dX12_heat_2 : decode cX12_heat 2 = .ok (.putfield 91, 3) := by decide +kernel
theorem dX12_heat_5 : decode cX12_heat 5 = .ok (.iload_n 2, 1) := by decide +kernel
theorem dX12_heat_6 : decode cX12_heat 6 = .ok (.i2l, 1) := by decide +kernel
theorem dX12_heat_7 : decode cX12_heat 7 = .ok (.ldc2_w 248, 3) := by decide +kernel
theorem dX12_heat_10 : decode cX12_heat 10 = .ok (.ldc2_w 250, 3) := by decide +kernel
theorem dX12_heat_13 : decode cX12_heat 13 = .ok (.invokestatic 99, 3) := by decide +kernel
theorem dX12_heat_16 : decode cX12_heat 16 = .ok (.ifCond .ne 9, 3) := by decide +kernel
theorem dX12_heat_19 : decode cX12_heat 19 = .ok (.aload_n 0, 1) := by decide +kernel
theorem dX12_heat_20 : decode cX12_heat 20 = .ok (.iconst (-1), 1) := by decide +kernel
theorem dX12_heat_21 : decode cX12_heat 21 = .ok (.invokevirtual 105, 3) := by decide +kernel
theorem dX12_heat_24 : decode cX12_heat 24 = .ok (.ireturn, 1) := by decide +kernel
theorem dX12_heat_25 : decode cX12_heat 25 = .ok (.aload_n 0, 1) := by decide +kernel
theorem dX12_heat_26 : decode cX12_heat 26 = .ok (.iload_n 1, 1) := by decide +kernel
theorem dX12_heat_27 : decode cX12_heat 27 = .ok (.invokevirtual 128, 3) := by decide +kernel
theorem dX12_heat_30 : decode cX12_heat 30 = .ok (.ifCond .ne 10, 3) := by decide +kernel
theorem dX12_heat_33 : decode cX12_heat 33 = .ok (.aload_n 0, 1) := by decide +kernel
theorem dX12_heat_34 : decode cX12_heat 34 = .ok (.bipush (-2), 2) := by decide +kernel
theorem dX12_heat_36 : decode cX12_heat 36 = .ok (.invokevirtual 105, 3) := by decide +kernel
theorem dX12_heat_39 : decode cX12_heat 39 = .ok (.ireturn, 1) := by decide +kernel
set_option maxRecDepth 20000 in
theorem ggX12_price_X12_isDay : GoodIn wsX12_price wsX12_isDay := goodIn_r _ [7, 8, 9, 10, 6, 11] (by decide +kernel) (by decide +kernel)
set_option maxRecDepth 20000 in
theorem gX12_price_X12_isDay : GoodIn wsX12_price (va_wsS RX12 141 yX12_isDay wsX12_isDay) := goodIn_app (goodIn_of _ (by decide +kernel)) ggX12_price_X12_isDay
set_option maxRecDepth 20000 in
theorem ggX12_price_X12_in : GoodIn wsX12_price wsX12_in := goodIn_r _ [11] (by decide +kernel) (by decide +kernel)
set_option maxRecDepth 20000 in
theorem gX12_price_X12_in : GoodIn wsX12_price (va_wsS RX12 99 yX12_in wsX12_in) := goodIn_app (goodIn_of _ (by decide +kernel)) ggX12_price_X12_in
set_option maxRecDepth 20000 in
theorem ggX12_price_X12_isHour : GoodIn wsX12_price wsX12_isHour := goodIn_r _ [14, 15, 9, 10, 6, 11] (by decide +kernel) (by decide +kernel)
set_option maxRecDepth 20000 in
theorem gX12_price_X12_isHour : GoodIn wsX12_price (va_wsS RX12 144 yX12_isHour wsX12_isHour) := goodIn_app (goodIn_of _ (by decide +kernel)) ggX12_price_X12_isHour
set_option maxRecDepth 20000 in
theorem ggX12_price_X12_told : GoodIn wsX12_price wsX12_told := goodIn_r _ [19, 20, 21, 22, 23, 24, 25, 26, 27, 28, 29, 30, 31, 32, 33, 34, 35, 36, 37, 38, 39, 40, 41, 42, 43, 44, 45, 46, 47, 48, 49, 50, 51, 52, 53, 54, 55, 56, 57, 58, 59, 60, 61, 62, 63, 64, 65, 66, 67, 68, 69, 70, 71, 72, 73] (by decide +kernel) (by decide +kernel)
set_option maxRecDepth 20000 in
theorem gX12_price_X12_told : GoodIn wsX12_price (wsV RX12 105 RX12 yX12_told wsX12_told) := goodIn_app (goodIn_of _ (by decide +kernel)) ggX12_price_X12_told
theorem dX12_price_0 : decode cX12_price 0 = .ok (.aload_n 0, 1) := by decide +kernel
theorem dX12_price_1 : decode cX12_price 1 = .ok (.iconst 0, 1) := by decide +kernel
theorem dX12_price_2 : decode cX12_price 2 = .ok (.putfield 91, 3) := by decide +kernel
theorem dX12_price_5 : decode cX12_price 5 = .ok (.iload_n 1, 1) := by decide +kernel
theorem dX12_price_6 : decode cX12_price 6 = .ok (.invokestatic 141, 3) := by decide +kernel
theorem dX12_price_9 : decode cX12_price 9 = .ok (.ifCond .eq 22, 3) := by decide +kernel
theorem dX12_price_12 : decode cX12_price 12 = .ok (.iload_n 2, 1) := by decide +kernel
theorem dX12_price_13 : decode cX12_price 13 = .ok (.i2l, 1) := by decide +kernel
theorem dX12_price_14 : decode cX12_price 14 = .ok (.lconst 0, 1) := by decide +kernel
theorem dX12_price_15 : decode cX12_price 15 = .ok (.ldc2_w 111, 3) := by decide +kernel
theorem dX12_price_18 : decode cX12_price 18 = .ok (.invokestatic 99, 3) := by decide +kernel
theorem dX12_price_21 : decode cX12_price 21 = .ok (.ifCond .eq 10, 3) := by decide +kernel
theorem dX12_price_24 : decode cX12_price 24 = .ok (.iload_n 3, 1) := by decide +kernel
theorem dX12_price_25 : decode cX12_price 25 = .ok (.invokestatic 144, 3) := by decide +kernel
theorem dX12_price_28 : decode cX12_price 28 = .ok (.ifCond .ne 9, 3) := by decide +kernel
theorem dX12_price_31 : decode cX12_price 31 = .ok (.aload_n 0, 1) := by decide +kernel
theorem dX12_price_32 : decode cX12_price 32 = .ok (.iconst (-1), 1) := by decide +kernel
theorem dX12_price_33 : decode cX12_price 33 = .ok (.invokevirtual 105, 3) := by decide +kernel
theorem dX12_price_36 : decode cX12_price 36 = .ok (.ireturn, 1) := by decide +kernel
theorem dX12_price_37 : decode cX12_price 37 = .ok (.aload_n 0, 1) := by decide +kernel
theorem dX12_price_38 : decode cX12_price 38 = .ok (.getfield 7, 3) := by decide +kernel
theorem dX12_price_41 : decode cX12_price 41 = .ok (.bipush 6, 2) := by decide +kernel
theorem dX12_price_43 : decode cX12_price 43 = .ok (.iaload, 1) := by decide +kernel
theorem dX12_price_44 : decode cX12_price 44 = .ok (.bipush 60, 2) := by decide +kernel
theorem dX12_price_46 : decode cX12_price 46 = .ok (.if_icmp .ne 10, 3) := by decide +kernel
theorem dX12_price_56 : decode cX12_price 56 = .ok (.sipush 2011, 3) := by decide +kernel
theorem dX12_price_59 : decode cX12_price 59 = .ok (.iconst 3, 1) := by decide +kernel
theorem dX12_price_60 : decode cX12_price 60 = .ok (.aload_n 0, 1) := by decide +kernel
theorem dX12_price_61 : decode cX12_price 61 = .ok (.getfield 7, 3) := by decide +kernel
theorem dX12_price_64 : decode cX12_price 64 = .ok (.bipush 6, 2) := by decide +kernel
theorem dX12_price_66 : decode cX12_price 66 = .ok (.iaload, 1) := by decide +kernel
theorem dX12_price_67 : decode cX12_price 67 = .ok (.imul, 1) := by decide +kernel
theorem dX12_price_68 : decode cX12_price 68 = .ok (.iadd, 1) := by decide +kernel
theorem dX12_price_69 : decode cX12_price 69 = .ok (.istore 4, 2) := by decide +kernel
theorem dX12_price_71 : decode cX12_price 71 = .ok (.aload_n 0, 1) := by decide +kernel
theorem dX12_price_72 : decode cX12_price 72 = .ok (.getfield 7, 3) := by decide +kernel
theorem dX12_price_75 : decode cX12_price 75 = .ok (.iload 4, 2) := by decide +kernel
theorem dX12_price_77 : decode cX12_price 77 = .ok (.iload_n 1, 1) := by decide +kernel
theorem dX12_price_78 : decode cX12_price 78 = .ok (.iastore, 1) := by decide +kernel
theorem dX12_price_79 : decode cX12_price 79 = .ok (.aload_n 0, 1) := by decide +kernel
theorem dX12_price_80 : decode cX12_price 80 = .ok (.getfield 7, 3) := by decide +kernel
theorem dX12_price_83 : decode cX12_price 83 = .ok (.iload 4, 2) := by decide +kernel
theorem dX12_price_85 : decode cX12_price 85 = .ok (.iconst 1, 1) := by decide +kernel
theorem dX12_price_86 : decode cX12_price 86 = .ok (.iadd, 1) := by decide +kernel
theorem dX12_price_87 : decode cX12_price 87 = .ok (.iload_n 2, 1) := by decide +kernel
theorem dX12_price_88 : decode cX12_price 88 = .ok (.iastore, 1) := by decide +kernel
theorem dX12_price_89 : decode cX12_price 89 = .ok (.aload_n 0, 1) := by decide +kernel
theorem dX12_price_90 : decode cX12_price 90 = .ok (.getfield 7, 3) := by decide +kernel
theorem dX12_price_93 : decode cX12_price 93 = .ok (.iload 4, 2) := by decide +kernel
theorem dX12_price_95 : decode cX12_price 95 = .ok (.iconst 2, 1) := by decide +kernel
theorem dX12_price_96 : decode cX12_price 96 = .ok (.iadd, 1) := by decide +kernel
theorem dX12_price_97 : decode cX12_price 97 = .ok (.iload_n 3, 1) := by decide +kernel
theorem dX12_price_98 : decode cX12_price 98 = .ok (.iastore, 1) := by decide +kernel
theorem dX12_price_99 : decode cX12_price 99 = .ok (.aload_n 0, 1) := by decide +kernel
theorem dX12_price_100 : decode cX12_price 100 = .ok (.getfield 7, 3) := by decide +kernel
theorem dX12_price_103 : decode cX12_price 103 = .ok (.bipush 6, 2) := by decide +kernel
theorem dX12_price_105 : decode cX12_price 105 = .ok (.dup2, 1) := by decide +kernel
theorem dX12_price_106 : decode cX12_price 106 = .ok (.iaload, 1) := by decide +kernel
theorem dX12_price_107 : decode cX12_price 107 = .ok (.iconst 1, 1) := by decide +kernel
theorem dX12_price_108 : decode cX12_price 108 = .ok (.iadd, 1) := by decide +kernel
theorem dX12_price_109 : decode cX12_price 109 = .ok (.iastore, 1) := by decide +kernel
theorem dX12_price_110 : decode cX12_price 110 = .ok (.aload_n 0, 1) := by decide +kernel
theorem dX12_price_111 : decode cX12_price 111 = .ok (.aload_n 0, 1) := by decide +kernel
theorem dX12_price_112 : decode cX12_price 112 = .ok (.getfield 7, 3) := by decide +kernel
theorem dX12_price_115 : decode cX12_price 115 = .ok (.bipush 6, 2) := by decide +kernel
theorem dX12_price_117 : decode cX12_price 117 = .ok (.iaload, 1) := by decide +kernel
theorem dX12_price_118 : decode cX12_price 118 = .ok (.invokevirtual 105, 3) := by decide +kernel
theorem dX12_price_121 : decode cX12_price 121 = .ok (.ireturn, 1) := by decide +kernel
set_option maxRecDepth 20000 in
theorem ggX12_force_X12_isHour : GoodIn wsX12_force wsX12_isHour := goodIn_r _ [6, 7, 8, 9, 5, 10] (by decide +kernel) (by decide +kernel)
set_option maxRecDepth 20000 in
theorem gX12_force_X12_isHour : GoodIn wsX12_force (va_wsS RX12 144 yX12_isHour wsX12_isHour) := goodIn_app (goodIn_of _ (by decide +kernel)) ggX12_force_X12_isHour
set_option maxRecDepth 20000 in
theorem ggX12_force_X12_in : GoodIn wsX12_force wsX12_in := goodIn_r _ [10] (by decide +kernel) (by decide +kernel)
set_option maxRecDepth 20000 in
theorem gX12_force_X12_in : GoodIn wsX12_force (va_wsS RX12 99 yX12_in wsX12_in) := goodIn_app (goodIn_of _ (by decide +kernel)) ggX12_force_X12_in
set_option maxRecDepth 20000 in
theorem ggX12_force_X12_told : GoodIn wsX12_force wsX12_told := goodIn_r _ [14, 15, 16, 17, 18, 19, 20, 21, 22, 23, 24, 25, 26, 27, 28, 29, 30, 31, 32, 33, 34, 35, 36, 37, 38, 39, 40, 41, 42, 43, 44, 45, 46, 47, 48, 49, 50, 51, 52, 53, 54, 55, 56, 57, 58, 59, 60, 61, 62, 63, 64, 65, 66, 67, 68] (by decide +kernel) (by decide +kernel)
set_option maxRecDepth 20000 in
theorem gX12_force_X12_told : GoodIn wsX12_force (wsV RX12 105 RX12 yX12_told wsX12_told) := goodIn_app (goodIn_of _ (by decide +kernel)) ggX12_force_X12_told
theorem dX12_force_0 : decode cX12_force 0 = .ok (.aload_n 0, 1) := by decide +kernel
theorem dX12_force_1 : decode cX12_force 1 = .ok (.iconst 0, 1) := by decide +kernel
theorem dX12_force_2 : decode cX12_force 2 = .ok (.putfield 91, 3) := by decide +kernel
theorem dX12_force_5 : decode cX12_force 5 = .ok (.iload_n 2, 1) := by decide +kernel
theorem dX12_force_6 : decode cX12_force 6 = .ok (.invokestatic 144, 3) := by decide +kernel
theorem dX12_force_9 : decode cX12_force 9 = .ok (.ifCond .eq 21, 3) := by decide +kernel
theorem dX12_force_12 : decode cX12_force 12 = .ok (.iload_n 1, 1) := by decide +kernel
theorem dX12_force_13 : decode cX12_force 13 = .ok (.i2l, 1) := by decide +kernel
theorem dX12_force_14 : decode cX12_force 14 = .ok (.lconst 0, 1) := by decide +kernel
theorem dX12_force_15 : decode cX12_force 15 = .ok (.iload_n 2, 1) := by decide +kernel
theorem dX12_force_16 : decode cX12_force 16 = .ok (.i2l, 1) := by decide +kernel
theorem dX12_force_17 : decode cX12_force 17 = .ok (.invokestatic 99, 3) := by decide +kernel
theorem dX12_force_20 : decode cX12_force 20 = .ok (.ifCond .eq 10, 3) := by decide +kernel
theorem dX12_force_23 : decode cX12_force 23 = .ok (.iload_n 3, 1) := by decide +kernel
theorem dX12_force_24 : decode cX12_force 24 = .ok (.invokestatic 144, 3) := by decide +kernel
theorem dX12_force_27 : decode cX12_force 27 = .ok (.ifCond .ne 9, 3) := by decide +kernel
theorem dX12_force_30 : decode cX12_force 30 = .ok (.aload_n 0, 1) := by decide +kernel
theorem dX12_force_31 : decode cX12_force 31 = .ok (.iconst (-1), 1) := by decide +kernel
theorem dX12_force_32 : decode cX12_force 32 = .ok (.invokevirtual 105, 3) := by decide +kernel
theorem dX12_force_35 : decode cX12_force 35 = .ok (.ireturn, 1) := by decide +kernel
theorem dX12_force_36 : decode cX12_force 36 = .ok (.aload_n 0, 1) := by decide +kernel
theorem dX12_force_37 : decode cX12_force 37 = .ok (.getfield 7, 3) := by decide +kernel
theorem dX12_force_40 : decode cX12_force 40 = .ok (.bipush 7, 2) := by decide +kernel
theorem dX12_force_42 : decode cX12_force 42 = .ok (.iaload, 1) := by decide +kernel
theorem dX12_force_43 : decode cX12_force 43 = .ok (.bipush 20, 2) := by decide +kernel
theorem dX12_force_45 : decode cX12_force 45 = .ok (.if_icmp .ne 10, 3) := by decide +kernel
theorem dX12_force_55 : decode cX12_force 55 = .ok (.sipush 2191, 3) := by decide +kernel
theorem dX12_force_58 : decode cX12_force 58 = .ok (.iconst 3, 1) := by decide +kernel
theorem dX12_force_59 : decode cX12_force 59 = .ok (.aload_n 0, 1) := by decide +kernel
theorem dX12_force_60 : decode cX12_force 60 = .ok (.getfield 7, 3) := by decide +kernel
theorem dX12_force_63 : decode cX12_force 63 = .ok (.bipush 7, 2) := by decide +kernel
theorem dX12_force_65 : decode cX12_force 65 = .ok (.iaload, 1) := by decide +kernel
theorem dX12_force_66 : decode cX12_force 66 = .ok (.imul, 1) := by decide +kernel
theorem dX12_force_67 : decode cX12_force 67 = .ok (.iadd, 1) := by decide +kernel
theorem dX12_force_68 : decode cX12_force 68 = .ok (.istore 4, 2) := by decide +kernel
theorem dX12_force_70 : decode cX12_force 70 = .ok (.aload_n 0, 1) := by decide +kernel
theorem dX12_force_71 : decode cX12_force 71 = .ok (.getfield 7, 3) := by decide +kernel
theorem dX12_force_74 : decode cX12_force 74 = .ok (.iload 4, 2) := by decide +kernel
theorem dX12_force_76 : decode cX12_force 76 = .ok (.iload_n 1, 1) := by decide +kernel
theorem dX12_force_77 : decode cX12_force 77 = .ok (.iastore, 1) := by decide +kernel
theorem dX12_force_78 : decode cX12_force 78 = .ok (.aload_n 0, 1) := by decide +kernel
theorem dX12_force_79 : decode cX12_force 79 = .ok (.getfield 7, 3) := by decide +kernel
theorem dX12_force_82 : decode cX12_force 82 = .ok (.iload 4, 2) := by decide +kernel
theorem dX12_force_84 : decode cX12_force 84 = .ok (.iconst 1, 1) := by decide +kernel
theorem dX12_force_85 : decode cX12_force 85 = .ok (.iadd, 1) := by decide +kernel
theorem dX12_force_86 : decode cX12_force 86 = .ok (.iload_n 2, 1) := by decide +kernel
theorem dX12_force_87 : decode cX12_force 87 = .ok (.iastore, 1) := by decide +kernel
theorem dX12_force_88 : decode cX12_force 88 = .ok (.aload_n 0, 1) := by decide +kernel
theorem dX12_force_89 : decode cX12_force 89 = .ok (.getfield 7, 3) := by decide +kernel
theorem dX12_force_92 : decode cX12_force 92 = .ok (.iload 4, 2) := by decide +kernel
theorem dX12_force_94 : decode cX12_force 94 = .ok (.iconst 2, 1) := by decide +kernel
theorem dX12_force_95 : decode cX12_force 95 = .ok (.iadd, 1) := by decide +kernel
theorem dX12_force_96 : decode cX12_force 96 = .ok (.iload_n 3, 1) := by decide +kernel
theorem dX12_force_97 : decode cX12_force 97 = .ok (.iastore, 1) := by decide +kernel
theorem dX12_force_98 : decode cX12_force 98 = .ok (.aload_n 0, 1) := by decide +kernel
theorem dX12_force_99 : decode cX12_force 99 = .ok (.getfield 7, 3) := by decide +kernel
theorem dX12_force_102 : decode cX12_force 102 = .ok (.bipush 7, 2) := by decide +kernel
theorem dX12_force_104 : decode cX12_force 104 = .ok (.dup2, 1) := by decide +kernel
theorem dX12_force_105 : decode cX12_force 105 = .ok (.iaload, 1) := by decide +kernel
theorem dX12_force_106 : decode cX12_force 106 = .ok (.iconst 1, 1) := by decide +kernel
theorem dX12_force_107 : decode cX12_force 107 = .ok (.iadd, 1) := by decide +kernel
theorem dX12_force_108 : decode cX12_force 108 = .ok (.iastore, 1) := by decide +kernel
theorem dX12_force_109 : decode cX12_force 109 = .ok (.aload_n 0, 1) := by decide +kernel
theorem dX12_force_110 : decode cX12_force 110 = .ok (.aload_n 0, 1) := by decide +kernel
theorem dX12_force_111 : decode cX12_force 111 = .ok (.getfield 7, 3) := by decide +kernel
theorem dX12_force_114 : decode cX12_force 114 = .ok (.bipush 7, 2) := by decide +kernel
theorem dX12_force_116 : decode cX12_force 116 = .ok (.iaload, 1) := by decide +kernel
theorem dX12_force_117 : decode cX12_force 117 = .ok (.invokevirtual 105, 3) := by decide +kernel
theorem dX12_force_120 : decode cX12_force 120 = .ok (.ireturn, 1) := by decide +kernel
set_option maxRecDepth 20000 in
theorem ggX12_bill_X12_in : GoodIn wsX12_bill wsX12_in := goodIn_r _ [7] (by decide +kernel) (by decide +kernel)
set_option maxRecDepth 20000 in
theorem gX12_bill_X12_in : GoodIn wsX12_bill (va_wsS RX12 99 yX12_in wsX12_in) := goodIn_app (goodIn_of _ (by decide +kernel)) ggX12_bill_X12_in
set_option maxRecDepth 20000 in
theorem ggX12_bill_X12_told : GoodIn wsX12_bill wsX12_told := goodIn_r _ [11, 12, 20, 21, 22, 23, 24, 25, 26, 27, 28, 29, 30, 31, 32, 33, 34, 35, 36, 37, 38, 39, 40, 41, 42, 43, 44, 45, 46, 47, 48, 49, 50, 51, 52, 53, 54, 55, 56, 57, 58, 59, 60, 61, 62, 63, 64, 65, 66, 67, 68, 69, 70, 71, 72] (by decide +kernel) (by decide +kernel)
set_option maxRecDepth 20000 in
theorem gX12_bill_X12_told : GoodIn wsX12_bill (wsV RX12 105 RX12 yX12_told wsX12_told) := goodIn_app (goodIn_of _ (by decide +kernel)) ggX12_bill_X12_told
set_option maxRecDepth 20000 in
theorem ggX12_bill_X12_isLanding : GoodIn wsX12_bill wsX12_isLanding := goodIn_r _ [16, 3, 4, 5, 6, 7, 20, 21, 22, 23, 24, 25, 26, 27, 28, 29, 30, 31, 32, 33, 34, 35, 36, 37, 38, 39, 40, 41, 42, 43, 44, 45, 46, 47, 48, 49, 50, 51, 52, 53, 54, 55, 56, 57, 58, 59, 60, 61, 62, 63, 64, 65, 66, 67, 68, 69, 70, 71, 72] (by decide +kernel) (by decide +kernel)
set_option maxRecDepth 20000 in
theorem gX12_bill_X12_isLanding : GoodIn wsX12_bill (wsV RX12 237 RX12 yX12_isLanding wsX12_isLanding) := goodIn_app (goodIn_of _ (by decide +kernel)) ggX12_bill_X12_isLanding
theorem dX12_bill_0 : decode cX12_bill 0 = .ok (.aload_n 0, 1) := by decide +kernel
theorem dX12_bill_1 : decode cX12_bill 1 = .ok (.iconst 0, 1) := by decide +kernel
theorem dX12_bill_2 : decode cX12_bill 2 = .ok (.putfield 91, 3) := by decide +kernel
theorem dX12_bill_5 : decode cX12_bill 5 = .ok (.iload_n 2, 1) := by decide +kernel
theorem dX12_bill_6 : decode cX12_bill 6 = .ok (.i2l, 1) := by decide +kernel
theorem dX12_bill_7 : decode cX12_bill 7 = .ok (.lconst 0, 1) := by decide +kernel
theorem dX12_bill_8 : decode cX12_bill 8 = .ok (.ldc2_w 124, 3) := by decide +kernel
theorem dX12_bill_11 : decode cX12_bill 11 = .ok (.invokestatic 99, 3) := by decide +kernel
theorem dX12_bill_14 : decode cX12_bill 14 = .ok (.ifCond .ne 9, 3) := by decide +kernel
theorem dX12_bill_17 : decode cX12_bill 17 = .ok (.aload_n 0, 1) := by decide +kernel
theorem dX12_bill_18 : decode cX12_bill 18 = .ok (.iconst (-1), 1) := by decide +kernel
theorem dX12_bill_19 : decode cX12_bill 19 = .ok (.invokevirtual 105, 3) := by decide +kernel
theorem dX12_bill_22 : decode cX12_bill 22 = .ok (.ireturn, 1) := by decide +kernel
theorem dX12_bill_23 : decode cX12_bill 23 = .ok (.aload_n 0, 1) := by decide +kernel
theorem dX12_bill_24 : decode cX12_bill 24 = .ok (.iload_n 1, 1) := by decide +kernel
theorem dX12_bill_25 : decode cX12_bill 25 = .ok (.invokevirtual 237, 3) := by decide +kernel
theorem dX12_bill_28 : decode cX12_bill 28 = .ok (.ifCond .ne 10, 3) := by decide +kernel
theorem dX12_bill_31 : decode cX12_bill 31 = .ok (.aload_n 0, 1) := by decide +kernel
theorem dX12_bill_32 : decode cX12_bill 32 = .ok (.bipush (-2), 2) := by decide +kernel
theorem dX12_bill_34 : decode cX12_bill 34 = .ok (.invokevirtual 105, 3) := by decide +kernel
theorem dX12_bill_37 : decode cX12_bill 37 = .ok (.ireturn, 1) := by decide +kernel
theorem dX12_end_0 : decode cX12_end 0 = .ok (.aload_n 0, 1) := by decide +kernel
theorem dX12_end_1 : decode cX12_end 1 = .ok (.iconst 0, 1) := by decide +kernel
theorem dX12_end_2 : decode cX12_end 2 = .ok (.putfield 91, 3) := by decide +kernel
theorem dX12_end_5 : decode cX12_end 5 = .ok (.iload_n 1, 1) := by decide +kernel
theorem dX12_end_6 : decode cX12_end 6 = .ok (.ifCond .lt 11, 3) := by decide +kernel
theorem dX12_end_9 : decode cX12_end 9 = .ok (.iload_n 1, 1) := by decide +kernel
theorem dX12_end_10 : decode cX12_end 10 = .ok (.aload_n 0, 1) := by decide +kernel
theorem dX12_end_11 : decode cX12_end 11 = .ok (.getfield 252, 3) := by decide +kernel
theorem dX12_end_14 : decode cX12_end 14 = .ok (.if_icmp .le 5, 3) := by decide +kernel
theorem dX12_end_17 : decode cX12_end 17 = .ok (.iconst (-1), 1) := by decide +kernel
theorem dX12_end_18 : decode cX12_end 18 = .ok (.ireturn, 1) := by decide +kernel
theorem dX12_end_19 : decode cX12_end 19 = .ok (.aload_n 0, 1) := by decide +kernel
theorem dX12_end_20 : decode cX12_end 20 = .ok (.iload_n 1, 1) := by decide +kernel
theorem dX12_end_21 : decode cX12_end 21 = .ok (.putfield 252, 3) := by decide +kernel
theorem dX12_end_24 : decode cX12_end 24 = .ok (.iload_n 1, 1) := by decide +kernel
theorem dX12_end_25 : decode cX12_end 25 = .ok (.ireturn, 1) := by decide +kernel
theorem dX12_fault_0 : decode cX12_fault 0 = .ok (.aload_n 0, 1) := by decide +kernel
theorem dX12_fault_1 : decode cX12_fault 1 = .ok (.iconst 0, 1) := by decide +kernel
theorem dX12_fault_2 : decode cX12_fault 2 = .ok (.putfield 91, 3) := by decide +kernel
theorem dX12_fault_5 : decode cX12_fault 5 = .ok (.aload_n 0, 1) := by decide +kernel
theorem dX12_fault_6 : decode cX12_fault 6 = .ok (.getfield 30, 3) := by decide +kernel
theorem dX12_fault_9 : decode cX12_fault 9 = .ok (.ireturn, 1) := by decide +kernel
set_option maxRecDepth 20000 in
theorem ggX12_isContract_X12_in : GoodIn wsX12_isContract wsX12_in := goodIn_r _ [5] (by decide +kernel) (by decide +kernel)
set_option maxRecDepth 20000 in
theorem gX12_isContract_X12_in : GoodIn wsX12_isContract (va_wsS RX12 99 yX12_in wsX12_in) := goodIn_app (goodIn_of _ (by decide +kernel)) ggX12_isContract_X12_in
theorem dX12_isContract_0 : decode cX12_isContract 0 = .ok (.iload_n 1, 1) := by decide +kernel
theorem dX12_isContract_1 : decode cX12_isContract 1 = .ok (.i2l, 1) := by decide +kernel
theorem dX12_isContract_2 : decode cX12_isContract 2 = .ok (.lconst 0, 1) := by decide +kernel
theorem dX12_isContract_3 : decode cX12_isContract 3 = .ok (.aload_n 0, 1) := by decide +kernel
theorem dX12_isContract_4 : decode cX12_isContract 4 = .ok (.getfield 7, 3) := by decide +kernel
theorem dX12_isContract_7 : decode cX12_isContract 7 = .ok (.bipush 8, 2) := by decide +kernel
theorem dX12_isContract_9 : decode cX12_isContract 9 = .ok (.iaload, 1) := by decide +kernel
theorem dX12_isContract_10 : decode cX12_isContract 10 = .ok (.i2l, 1) := by decide +kernel
theorem dX12_isContract_11 : decode cX12_isContract 11 = .ok (.lconst 1, 1) := by decide +kernel
theorem dX12_isContract_12 : decode cX12_isContract 12 = .ok (.lsub, 1) := by decide +kernel
theorem dX12_isContract_13 : decode cX12_isContract 13 = .ok (.invokestatic 99, 3) := by decide +kernel
theorem dX12_isContract_16 : decode cX12_isContract 16 = .ok (.ireturn, 1) := by decide +kernel
set_option maxRecDepth 20000 in
theorem ggX12_due_X12_isLanding : GoodIn wsX12_due wsX12_isLanding := goodIn_r _ [11, 12, 13, 14, 10, 15, 73, 74, 75, 76, 77, 78, 79, 80, 81, 82, 83, 84, 85, 86, 87, 88, 89, 90, 91, 92, 93, 94, 95, 96, 97, 98, 99, 100, 101, 102, 103, 104, 105, 106, 107, 108, 109, 110, 111, 112, 113, 114, 115, 116, 117, 118, 119, 120, 121, 122, 123, 124, 125] (by decide +kernel) (by decide +kernel)
set_option maxRecDepth 20000 in
theorem gX12_due_X12_isLanding : GoodIn wsX12_due (wsV RX12 237 RX12 yX12_isLanding wsX12_isLanding) := goodIn_app (goodIn_of _ (by decide +kernel)) ggX12_due_X12_isLanding
theorem dX12_due_0 : decode cX12_due 0 = .ok (.aload_n 0, 1) := by decide +kernel
theorem dX12_due_1 : decode cX12_due 1 = .ok (.iconst 0, 1) := by decide +kernel
theorem dX12_due_2 : decode cX12_due 2 = .ok (.putfield 91, 3) := by decide +kernel
theorem dX12_due_5 : decode cX12_due 5 = .ok (.aload_n 0, 1) := by decide +kernel
theorem dX12_due_6 : decode cX12_due 6 = .ok (.iload_n 1, 1) := by decide +kernel
theorem dX12_due_7 : decode cX12_due 7 = .ok (.invokevirtual 237, 3) := by decide +kernel
theorem dX12_due_10 : decode cX12_due 10 = .ok (.ifCond .eq 31, 3) := by decide +kernel
theorem dX12_due_41 : decode cX12_due 41 = .ok (.ldc2_w 466, 3) := by decide +kernel
theorem dX12_due_44 : decode cX12_due 44 = .ok (.lreturn, 1) := by decide +kernel
set_option maxRecDepth 20000 in
theorem ggX12_settle_X12_isLanding : GoodIn wsX12_settle wsX12_isLanding := goodIn_r _ [9, 2, 10, 11, 8, 12, 72, 73, 74, 75, 76, 77, 78, 79, 80, 81, 82, 83, 84, 85, 86, 87, 88, 89, 90, 91, 92, 93, 94, 95, 96, 97, 98, 99, 100, 101, 102, 103, 104, 105, 106, 107, 108, 109, 110, 111, 112, 113, 114, 115, 116, 117, 118, 119, 120, 121, 122, 123, 124] (by decide +kernel) (by decide +kernel)
set_option maxRecDepth 20000 in
theorem gX12_settle_X12_isLanding : GoodIn wsX12_settle (wsV RX12 237 RX12 yX12_isLanding wsX12_isLanding) := goodIn_app (goodIn_of _ (by decide +kernel)) ggX12_settle_X12_isLanding
set_option maxRecDepth 20000 in
theorem ggX12_settle_X12_told : GoodIn wsX12_settle wsX12_told := goodIn_r _ [20, 21, 72, 73, 74, 75, 76, 77, 78, 79, 80, 81, 82, 83, 84, 85, 86, 87, 88, 89, 90, 91, 92, 93, 94, 95, 96, 97, 98, 99, 100, 101, 102, 103, 104, 105, 106, 107, 108, 109, 110, 111, 112, 113, 114, 115, 116, 117, 118, 119, 120, 121, 122, 123, 124] (by decide +kernel) (by decide +kernel)
set_option maxRecDepth 20000 in
theorem gX12_settle_X12_told : GoodIn wsX12_settle (wsV RX12 105 RX12 yX12_told wsX12_told) := goodIn_app (goodIn_of _ (by decide +kernel)) ggX12_settle_X12_told
theorem dX12_settle_0 : decode cX12_settle 0 = .ok (.aload_n 0, 1) := by decide +kernel
theorem dX12_settle_1 : decode cX12_settle 1 = .ok (.iconst 0, 1) := by decide +kernel
theorem dX12_settle_2 : decode cX12_settle 2 = .ok (.putfield 91, 3) := by decide +kernel
theorem dX12_settle_5 : decode cX12_settle 5 = .ok (.aload_n 0, 1) := by decide +kernel
theorem dX12_settle_6 : decode cX12_settle 6 = .ok (.iload_n 1, 1) := by decide +kernel
theorem dX12_settle_7 : decode cX12_settle 7 = .ok (.invokevirtual 237, 3) := by decide +kernel
theorem dX12_settle_10 : decode cX12_settle 10 = .ok (.ifCond .eq 11, 3) := by decide +kernel
theorem dX12_settle_21 : decode cX12_settle 21 = .ok (.aload_n 0, 1) := by decide +kernel
theorem dX12_settle_22 : decode cX12_settle 22 = .ok (.bipush (-2), 2) := by decide +kernel
theorem dX12_settle_24 : decode cX12_settle 24 = .ok (.invokevirtual 105, 3) := by decide +kernel
theorem dX12_settle_27 : decode cX12_settle 27 = .ok (.ireturn, 1) := by decide +kernel
set_option maxRecDepth 20000 in
theorem ggX12_settled_X12_isLanding : GoodIn wsX12_settled wsX12_isLanding := goodIn_r _ [10, 3, 11, 12, 9, 13, 17, 18, 19, 20, 21, 22, 23, 24, 25, 26, 27, 28, 29, 30, 31, 32, 33, 34, 35, 36, 37, 38, 39, 40, 41, 42, 43, 44, 45, 46, 47, 48, 49, 50, 51, 52, 53, 54, 55, 56, 57, 58, 59, 60, 61, 62, 63, 64, 65, 66, 67, 68, 69] (by decide +kernel) (by decide +kernel)
set_option maxRecDepth 20000 in
theorem gX12_settled_X12_isLanding : GoodIn wsX12_settled (wsV RX12 237 RX12 yX12_isLanding wsX12_isLanding) := goodIn_app (goodIn_of _ (by decide +kernel)) ggX12_settled_X12_isLanding
theorem dX12_settled_0 : decode cX12_settled 0 = .ok (.aload_n 0, 1) := by decide +kernel
theorem dX12_settled_1 : decode cX12_settled 1 = .ok (.iconst 0, 1) := by decide +kernel
theorem dX12_settled_2 : decode cX12_settled 2 = .ok (.putfield 91, 3) := by decide +kernel
theorem dX12_settled_5 : decode cX12_settled 5 = .ok (.aload_n 0, 1) := by decide +kernel
theorem dX12_settled_6 : decode cX12_settled 6 = .ok (.iload_n 1, 1) := by decide +kernel
theorem dX12_settled_7 : decode cX12_settled 7 = .ok (.invokevirtual 237, 3) := by decide +kernel
theorem dX12_settled_10 : decode cX12_settled 10 = .ok (.ifCond .eq 31, 3) := by decide +kernel
theorem dX12_settled_41 : decode cX12_settled 41 = .ok (.ldc2_w 466, 3) := by decide +kernel
theorem dX12_settled_44 : decode cX12_settled 44 = .ok (.lreturn, 1) := by decide +kernel
set_option maxRecDepth 20000 in
theorem ggX12_table_X12_in : GoodIn wsX12_table wsX12_in := goodIn_r _ [9] (by decide +kernel) (by decide +kernel)
set_option maxRecDepth 20000 in
theorem gX12_table_X12_in : GoodIn wsX12_table (va_wsS RX12 99 yX12_in wsX12_in) := goodIn_app (goodIn_of _ (by decide +kernel)) ggX12_table_X12_in
set_option maxRecDepth 20000 in
theorem ggX12_table_X12_told : GoodIn wsX12_table wsX12_told := goodIn_r _ [13, 14, 22, 23, 24, 25, 26, 27, 28, 29, 30, 31, 32, 33, 34, 35, 36, 37, 38, 39, 40, 41, 42, 43, 44, 45, 46, 47, 48, 49, 50, 51, 52, 53, 54, 55, 56, 57, 58, 59, 60, 61, 62, 63, 64, 65, 66, 67, 68, 69, 70, 71, 72, 73, 74] (by decide +kernel) (by decide +kernel)
set_option maxRecDepth 20000 in
theorem gX12_table_X12_told : GoodIn wsX12_table (wsV RX12 105 RX12 yX12_told wsX12_told) := goodIn_app (goodIn_of _ (by decide +kernel)) ggX12_table_X12_told
set_option maxRecDepth 20000 in
theorem ggX12_table_X12_isShip : GoodIn wsX12_table wsX12_isShip := goodIn_r _ [18, 5, 6, 7, 8, 9, 22, 23, 24, 25, 26, 27, 28, 29, 30, 31, 32, 33, 34, 35, 36, 37, 38, 39, 40, 41, 42, 43, 44, 45, 46, 47, 48, 49, 50, 51, 52, 53, 54, 55, 56, 57, 58, 59, 60, 61, 62, 63, 64, 65, 66, 67, 68, 69, 70, 71, 72, 73, 74] (by decide +kernel) (by decide +kernel)
set_option maxRecDepth 20000 in
theorem gX12_table_X12_isShip : GoodIn wsX12_table (wsV RX12 147 RX12 yX12_isShip wsX12_isShip) := goodIn_app (goodIn_of _ (by decide +kernel)) ggX12_table_X12_isShip
theorem dX12_table_0 : decode cX12_table 0 = .ok (.aload_n 0, 1) := by decide +kernel
theorem dX12_table_1 : decode cX12_table 1 = .ok (.iconst 0, 1) := by decide +kernel
theorem dX12_table_2 : decode cX12_table 2 = .ok (.putfield 91, 3) := by decide +kernel
theorem dX12_table_5 : decode cX12_table 5 = .ok (.iload_n 2, 1) := by decide +kernel
theorem dX12_table_6 : decode cX12_table 6 = .ok (.i2l, 1) := by decide +kernel
theorem dX12_table_7 : decode cX12_table 7 = .ok (.lconst 0, 1) := by decide +kernel
theorem dX12_table_8 : decode cX12_table 8 = .ok (.ldc2_w 152, 3) := by decide +kernel
theorem dX12_table_11 : decode cX12_table 11 = .ok (.invokestatic 99, 3) := by decide +kernel
theorem dX12_table_14 : decode cX12_table 14 = .ok (.ifCond .eq 28, 3) := by decide +kernel
theorem dX12_table_17 : decode cX12_table 17 = .ok (.iload_n 3, 1) := by decide +kernel
theorem dX12_table_18 : decode cX12_table 18 = .ok (.i2l, 1) := by decide +kernel
theorem dX12_table_19 : decode cX12_table 19 = .ok (.lconst 0, 1) := by decide +kernel
theorem dX12_table_20 : decode cX12_table 20 = .ok (.ldc2_w 481, 3) := by decide +kernel
theorem dX12_table_23 : decode cX12_table 23 = .ok (.invokestatic 99, 3) := by decide +kernel
theorem dX12_table_26 : decode cX12_table 26 = .ok (.ifCond .eq 16, 3) := by decide +kernel
theorem dX12_table_29 : decode cX12_table 29 = .ok (.iload 4, 2) := by decide +kernel
theorem dX12_table_31 : decode cX12_table 31 = .ok (.i2l, 1) := by decide +kernel
theorem dX12_table_32 : decode cX12_table 32 = .ok (.lconst 0, 1) := by decide +kernel
theorem dX12_table_33 : decode cX12_table 33 = .ok (.ldc2_w 124, 3) := by decide +kernel
theorem dX12_table_36 : decode cX12_table 36 = .ok (.invokestatic 99, 3) := by decide +kernel
theorem dX12_table_39 : decode cX12_table 39 = .ok (.ifCond .ne 9, 3) := by decide +kernel
theorem dX12_table_42 : decode cX12_table 42 = .ok (.aload_n 0, 1) := by decide +kernel
theorem dX12_table_43 : decode cX12_table 43 = .ok (.iconst (-1), 1) := by decide +kernel
theorem dX12_table_44 : decode cX12_table 44 = .ok (.invokevirtual 105, 3) := by decide +kernel
theorem dX12_table_47 : decode cX12_table 47 = .ok (.ireturn, 1) := by decide +kernel
theorem dX12_table_48 : decode cX12_table 48 = .ok (.aload_n 0, 1) := by decide +kernel
theorem dX12_table_49 : decode cX12_table 49 = .ok (.iload_n 1, 1) := by decide +kernel
theorem dX12_table_50 : decode cX12_table 50 = .ok (.invokevirtual 147, 3) := by decide +kernel
theorem dX12_table_53 : decode cX12_table 53 = .ok (.ifCond .ne 10, 3) := by decide +kernel
theorem dX12_table_56 : decode cX12_table 56 = .ok (.aload_n 0, 1) := by decide +kernel
theorem dX12_table_57 : decode cX12_table 57 = .ok (.bipush (-2), 2) := by decide +kernel
theorem dX12_table_59 : decode cX12_table 59 = .ok (.invokevirtual 105, 3) := by decide +kernel
theorem dX12_table_62 : decode cX12_table 62 = .ok (.ireturn, 1) := by decide +kernel
set_option maxRecDepth 20000 in
theorem ggX12_list_X12_in : GoodIn wsX12_list wsX12_in := goodIn_r _ [9] (by decide +kernel) (by decide +kernel)
set_option maxRecDepth 20000 in
theorem gX12_list_X12_in : GoodIn wsX12_list (va_wsS RX12 99 yX12_in wsX12_in) := goodIn_app (goodIn_of _ (by decide +kernel)) ggX12_list_X12_in
set_option maxRecDepth 20000 in
theorem ggX12_list_X12_told : GoodIn wsX12_list wsX12_told := goodIn_r _ [13, 5, 21, 22, 23, 24, 25, 26, 27, 28, 29, 30, 31, 32, 33, 34, 35, 36, 37, 38, 39, 40, 41, 42, 43, 44, 45, 46, 47, 48, 49, 50, 51, 52, 53, 54, 55, 56, 57, 58, 59, 60, 61, 62, 63, 64, 65, 66, 67, 68, 69, 70, 71, 72, 73] (by decide +kernel) (by decide +kernel)
set_option maxRecDepth 20000 in
theorem gX12_list_X12_told : GoodIn wsX12_list (wsV RX12 105 RX12 yX12_told wsX12_told) := goodIn_app (goodIn_of _ (by decide +kernel)) ggX12_list_X12_told
set_option maxRecDepth 20000 in
theorem ggX12_list_X12_isShip : GoodIn wsX12_list wsX12_isShip := goodIn_r _ [17, 4, 6, 7, 8, 9, 21, 22, 23, 24, 25, 26, 27, 28, 29, 30, 31, 32, 33, 34, 35, 36, 37, 38, 39, 40, 41, 42, 43, 44, 45, 46, 47, 48, 49, 50, 51, 52, 53, 54, 55, 56, 57, 58, 59, 60, 61, 62, 63, 64, 65, 66, 67, 68, 69, 70, 71, 72, 73] (by decide +kernel) (by decide +kernel)
set_option maxRecDepth 20000 in
theorem gX12_list_X12_isShip : GoodIn wsX12_list (wsV RX12 147 RX12 yX12_isShip wsX12_isShip) := goodIn_app (goodIn_of _ (by decide +kernel)) ggX12_list_X12_isShip
theorem dX12_list_0 : decode cX12_list 0 = .ok (.aload_n 0, 1) := by decide +kernel
theorem dX12_list_1 : decode cX12_list 1 = .ok (.iconst 0, 1) := by decide +kernel
theorem dX12_list_2 : decode cX12_list 2 = .ok (.putfield 91, 3) := by decide +kernel
theorem dX12_list_5 : decode cX12_list 5 = .ok (.iload_n 2, 1) := by decide +kernel
theorem dX12_list_6 : decode cX12_list 6 = .ok (.i2l, 1) := by decide +kernel
theorem dX12_list_7 : decode cX12_list 7 = .ok (.ldc2_w 483, 3) := by decide +kernel
theorem dX12_list_10 : decode cX12_list 10 = .ok (.ldc2_w 126, 3) := by decide +kernel
theorem dX12_list_13 : decode cX12_list 13 = .ok (.invokestatic 99, 3) := by decide +kernel
theorem dX12_list_16 : decode cX12_list 16 = .ok (.ifCond .ne 9, 3) := by decide +kernel
theorem dX12_list_19 : decode cX12_list 19 = .ok (.aload_n 0, 1) := by decide +kernel
theorem dX12_list_20 : decode cX12_list 20 = .ok (.iconst (-1), 1) := by decide +kernel
theorem dX12_list_21 : decode cX12_list 21 = .ok (.invokevirtual 105, 3) := by decide +kernel
theorem dX12_list_24 : decode cX12_list 24 = .ok (.ireturn, 1) := by decide +kernel
theorem dX12_list_25 : decode cX12_list 25 = .ok (.aload_n 0, 1) := by decide +kernel
theorem dX12_list_26 : decode cX12_list 26 = .ok (.iload_n 1, 1) := by decide +kernel
theorem dX12_list_27 : decode cX12_list 27 = .ok (.invokevirtual 147, 3) := by decide +kernel
theorem dX12_list_30 : decode cX12_list 30 = .ok (.ifCond .ne 10, 3) := by decide +kernel
theorem dX12_list_33 : decode cX12_list 33 = .ok (.aload_n 0, 1) := by decide +kernel
theorem dX12_list_34 : decode cX12_list 34 = .ok (.bipush (-2), 2) := by decide +kernel
theorem dX12_list_36 : decode cX12_list 36 = .ok (.invokevirtual 105, 3) := by decide +kernel
theorem dX12_list_39 : decode cX12_list 39 = .ok (.ireturn, 1) := by decide +kernel
set_option maxRecDepth 20000 in
theorem ggX12_reading_X12_in : GoodIn wsX12_reading wsX12_in := goodIn_r _ [9] (by decide +kernel) (by decide +kernel)
set_option maxRecDepth 20000 in
theorem gX12_reading_X12_in : GoodIn wsX12_reading (va_wsS RX12 99 yX12_in wsX12_in) := goodIn_app (goodIn_of _ (by decide +kernel)) ggX12_reading_X12_in
set_option maxRecDepth 20000 in
theorem ggX12_reading_X12_isHour : GoodIn wsX12_reading wsX12_isHour := goodIn_r _ [12, 13, 6, 7, 8, 9] (by decide +kernel) (by decide +kernel)
set_option maxRecDepth 20000 in
theorem gX12_reading_X12_isHour : GoodIn wsX12_reading (va_wsS RX12 144 yX12_isHour wsX12_isHour) := goodIn_app (goodIn_of _ (by decide +kernel)) ggX12_reading_X12_isHour
set_option maxRecDepth 20000 in
theorem ggX12_reading_X12_told : GoodIn wsX12_reading wsX12_told := goodIn_r _ [17, 18, 27, 28, 29, 30, 31, 32, 33, 34, 35, 36, 37, 38, 39, 40, 41, 42, 43, 44, 45, 46, 47, 48, 49, 50, 51, 52, 53, 54, 55, 56, 57, 58, 59, 60, 61, 62, 63, 64, 65, 66, 67, 68, 69, 70, 71, 72, 73, 74, 75, 76, 77, 78, 79] (by decide +kernel) (by decide +kernel)
set_option maxRecDepth 20000 in
theorem gX12_reading_X12_told : GoodIn wsX12_reading (wsV RX12 105 RX12 yX12_told wsX12_told) := goodIn_app (goodIn_of _ (by decide +kernel)) ggX12_reading_X12_told
set_option maxRecDepth 20000 in
theorem ggX12_reading_X12_isLanding : GoodIn wsX12_reading wsX12_isLanding := goodIn_r _ [22, 5, 6, 7, 8, 9, 27, 28, 29, 30, 31, 32, 33, 34, 35, 36, 37, 38, 39, 40, 41, 42, 43, 44, 45, 46, 47, 48, 49, 50, 51, 52, 53, 54, 55, 56, 57, 58, 59, 60, 61, 62, 63, 64, 65, 66, 67, 68, 69, 70, 71, 72, 73, 74, 75, 76, 77, 78, 79] (by decide +kernel) (by decide +kernel)
set_option maxRecDepth 20000 in
theorem gX12_reading_X12_isLanding : GoodIn wsX12_reading (wsV RX12 237 RX12 yX12_isLanding wsX12_isLanding) := goodIn_app (goodIn_of _ (by decide +kernel)) ggX12_reading_X12_isLanding
theorem dX12_reading_0 : decode cX12_reading 0 = .ok (.aload_n 0, 1) := by decide +kernel
theorem dX12_reading_1 : decode cX12_reading 1 = .ok (.iconst 0, 1) := by decide +kernel
theorem dX12_reading_2 : decode cX12_reading 2 = .ok (.putfield 91, 3) := by decide +kernel
theorem dX12_reading_5 : decode cX12_reading 5 = .ok (.iload_n 2, 1) := by decide +kernel
theorem dX12_reading_6 : decode cX12_reading 6 = .ok (.i2l, 1) := by decide +kernel
theorem dX12_reading_7 : decode cX12_reading 7 = .ok (.lconst 0, 1) := by decide +kernel
theorem dX12_reading_8 : decode cX12_reading 8 = .ok (.lconst 1, 1) := by decide +kernel
theorem dX12_reading_9 : decode cX12_reading 9 = .ok (.invokestatic 99, 3) := by decide +kernel
theorem dX12_reading_12 : decode cX12_reading 12 = .ok (.ifCond .eq 38, 3) := by decide +kernel
theorem dX12_reading_15 : decode cX12_reading 15 = .ok (.iload_n 3, 1) := by decide +kernel
theorem dX12_reading_16 : decode cX12_reading 16 = .ok (.i2l, 1) := by decide +kernel
theorem dX12_reading_17 : decode cX12_reading 17 = .ok (.lconst 0, 1) := by decide +kernel
theorem dX12_reading_18 : decode cX12_reading 18 = .ok (.ldc2_w 481, 3) := by decide +kernel
theorem dX12_reading_21 : decode cX12_reading 21 = .ok (.invokestatic 99, 3) := by decide +kernel
theorem dX12_reading_24 : decode cX12_reading 24 = .ok (.ifCond .eq 26, 3) := by decide +kernel
theorem dX12_reading_27 : decode cX12_reading 27 = .ok (.iload 4, 2) := by decide +kernel
theorem dX12_reading_29 : decode cX12_reading 29 = .ok (.i2l, 1) := by decide +kernel
theorem dX12_reading_30 : decode cX12_reading 30 = .ok (.ldc2_w 485, 3) := by decide +kernel
theorem dX12_reading_33 : decode cX12_reading 33 = .ok (.ldc2_w 487, 3) := by decide +kernel
theorem dX12_reading_36 : decode cX12_reading 36 = .ok (.invokestatic 99, 3) := by decide +kernel
theorem dX12_reading_39 : decode cX12_reading 39 = .ok (.ifCond .eq 11, 3) := by decide +kernel
theorem dX12_reading_42 : decode cX12_reading 42 = .ok (.iload 5, 2) := by decide +kernel
theorem dX12_reading_44 : decode cX12_reading 44 = .ok (.invokestatic 144, 3) := by decide +kernel
theorem dX12_reading_47 : decode cX12_reading 47 = .ok (.ifCond .ne 9, 3) := by decide +kernel
theorem dX12_reading_50 : decode cX12_reading 50 = .ok (.aload_n 0, 1) := by decide +kernel
theorem dX12_reading_51 : decode cX12_reading 51 = .ok (.iconst (-1), 1) := by decide +kernel
theorem dX12_reading_52 : decode cX12_reading 52 = .ok (.invokevirtual 105, 3) := by decide +kernel
theorem dX12_reading_55 : decode cX12_reading 55 = .ok (.ireturn, 1) := by decide +kernel
theorem dX12_reading_56 : decode cX12_reading 56 = .ok (.aload_n 0, 1) := by decide +kernel
theorem dX12_reading_57 : decode cX12_reading 57 = .ok (.iload_n 1, 1) := by decide +kernel
theorem dX12_reading_58 : decode cX12_reading 58 = .ok (.invokevirtual 237, 3) := by decide +kernel
theorem dX12_reading_61 : decode cX12_reading 61 = .ok (.ifCond .ne 10, 3) := by decide +kernel
theorem dX12_reading_64 : decode cX12_reading 64 = .ok (.aload_n 0, 1) := by decide +kernel
theorem dX12_reading_65 : decode cX12_reading 65 = .ok (.bipush (-2), 2) := by decide +kernel
theorem dX12_reading_67 : decode cX12_reading 67 = .ok (.invokevirtual 105, 3) := by decide +kernel
theorem dX12_reading_70 : decode cX12_reading 70 = .ok (.ireturn, 1) := by decide +kernel
set_option maxRecDepth 20000 in
theorem ggX12_gauged_X12_isLanding : GoodIn wsX12_gauged wsX12_isLanding := goodIn_r _ [9, 4, 10, 11, 8, 12, 43, 44, 45, 46, 47, 48, 49, 50, 51, 52, 53, 54, 55, 56, 57, 58, 59, 60, 61, 62, 63, 64, 65, 66, 67, 68, 69, 70, 71, 72, 73, 74, 75, 76, 77, 78, 79, 80, 81, 82, 83, 84, 85, 86, 87, 88, 89, 90, 91, 92, 93, 94, 95] (by decide +kernel) (by decide +kernel)
set_option maxRecDepth 20000 in
theorem gX12_gauged_X12_isLanding : GoodIn wsX12_gauged (wsV RX12 237 RX12 yX12_isLanding wsX12_isLanding) := goodIn_app (goodIn_of _ (by decide +kernel)) ggX12_gauged_X12_isLanding
theorem dX12_gauged_0 : decode cX12_gauged 0 = .ok (.aload_n 0, 1) := by decide +kernel
theorem dX12_gauged_1 : decode cX12_gauged 1 = .ok (.iconst 0, 1) := by decide +kernel
theorem dX12_gauged_2 : decode cX12_gauged 2 = .ok (.putfield 91, 3) := by decide +kernel
theorem dX12_gauged_5 : decode cX12_gauged 5 = .ok (.aload_n 0, 1) := by decide +kernel
theorem dX12_gauged_6 : decode cX12_gauged 6 = .ok (.iload_n 1, 1) := by decide +kernel
theorem dX12_gauged_7 : decode cX12_gauged 7 = .ok (.invokevirtual 237, 3) := by decide +kernel
theorem dX12_gauged_10 : decode cX12_gauged 10 = .ok (.ifCond .eq 22, 3) := by decide +kernel
theorem dX12_gauged_32 : decode cX12_gauged 32 = .ok (.ldc2_w 466, 3) := by decide +kernel
theorem dX12_gauged_35 : decode cX12_gauged 35 = .ok (.lreturn, 1) := by decide +kernel
set_option maxRecDepth 20000 in
theorem ggX12_cargo_X12_isHour : GoodIn wsX12_cargo wsX12_isHour := goodIn_r _ [8, 9, 10, 11, 7, 12] (by decide +kernel) (by decide +kernel)
set_option maxRecDepth 20000 in
theorem gX12_cargo_X12_isHour : GoodIn wsX12_cargo (va_wsS RX12 144 yX12_isHour wsX12_isHour) := goodIn_app (goodIn_of _ (by decide +kernel)) ggX12_cargo_X12_isHour
set_option maxRecDepth 20000 in
theorem ggX12_cargo_X12_in : GoodIn wsX12_cargo wsX12_in := goodIn_r _ [12] (by decide +kernel) (by decide +kernel)
set_option maxRecDepth 20000 in
theorem gX12_cargo_X12_in : GoodIn wsX12_cargo (va_wsS RX12 99 yX12_in wsX12_in) := goodIn_app (goodIn_of _ (by decide +kernel)) ggX12_cargo_X12_in
set_option maxRecDepth 20000 in
theorem ggX12_cargo_X12_told : GoodIn wsX12_cargo wsX12_told := goodIn_r _ [16, 17, 26, 27, 28, 29, 30, 31, 32, 33, 34, 35, 36, 37, 38, 39, 40, 41, 42, 43, 44, 45, 46, 47, 48, 49, 50, 51, 52, 53, 54, 55, 56, 57, 58, 59, 60, 61, 62, 63, 64, 65, 66, 67, 68, 69, 70, 71, 72, 73, 74, 75, 76, 77, 78] (by decide +kernel) (by decide +kernel)
set_option maxRecDepth 20000 in
theorem gX12_cargo_X12_told : GoodIn wsX12_cargo (wsV RX12 105 RX12 yX12_told wsX12_told) := goodIn_app (goodIn_of _ (by decide +kernel)) ggX12_cargo_X12_told
set_option maxRecDepth 20000 in
theorem ggX12_cargo_X12_isTerminal : GoodIn wsX12_cargo wsX12_isTerminal := goodIn_r _ [21, 4, 10, 11, 7, 12, 26, 27, 28, 29, 30, 31, 32, 33, 34, 35, 36, 37, 38, 39, 40, 41, 42, 43, 44, 45, 46, 47, 48, 49, 50, 51, 52, 53, 54, 55, 56, 57, 58, 59, 60, 61, 62, 63, 64, 65, 66, 67, 68, 69, 70, 71, 72, 73, 74, 75, 76, 77, 78] (by decide +kernel) (by decide +kernel)
set_option maxRecDepth 20000 in
theorem gX12_cargo_X12_isTerminal : GoodIn wsX12_cargo (wsV RX12 128 RX12 yX12_isTerminal wsX12_isTerminal) := goodIn_app (goodIn_of _ (by decide +kernel)) ggX12_cargo_X12_isTerminal
theorem dX12_cargo_0 : decode cX12_cargo 0 = .ok (.aload_n 0, 1) := by decide +kernel
theorem dX12_cargo_1 : decode cX12_cargo 1 = .ok (.iconst 0, 1) := by decide +kernel
theorem dX12_cargo_2 : decode cX12_cargo 2 = .ok (.putfield 91, 3) := by decide +kernel
theorem dX12_cargo_5 : decode cX12_cargo 5 = .ok (.iload 4, 2) := by decide +kernel
theorem dX12_cargo_7 : decode cX12_cargo 7 = .ok (.invokestatic 144, 3) := by decide +kernel
theorem dX12_cargo_10 : decode cX12_cargo 10 = .ok (.ifCond .eq 62, 3) := by decide +kernel
theorem dX12_cargo_13 : decode cX12_cargo 13 = .ok (.iload_n 3, 1) := by decide +kernel
theorem dX12_cargo_14 : decode cX12_cargo 14 = .ok (.i2l, 1) := by decide +kernel
theorem dX12_cargo_15 : decode cX12_cargo 15 = .ok (.lconst 0, 1) := by decide +kernel
theorem dX12_cargo_16 : decode cX12_cargo 16 = .ok (.iload 4, 2) := by decide +kernel
theorem dX12_cargo_18 : decode cX12_cargo 18 = .ok (.i2l, 1) := by decide +kernel
theorem dX12_cargo_19 : decode cX12_cargo 19 = .ok (.invokestatic 99, 3) := by decide +kernel
theorem dX12_cargo_22 : decode cX12_cargo 22 = .ok (.ifCond .eq 50, 3) := by decide +kernel
theorem dX12_cargo_25 : decode cX12_cargo 25 = .ok (.iload 6, 2) := by decide +kernel
theorem dX12_cargo_27 : decode cX12_cargo 27 = .ok (.invokestatic 144, 3) := by decide +kernel
theorem dX12_cargo_30 : decode cX12_cargo 30 = .ok (.ifCond .eq 42, 3) := by decide +kernel
theorem dX12_cargo_33 : decode cX12_cargo 33 = .ok (.iload 5, 2) := by decide +kernel
theorem dX12_cargo_35 : decode cX12_cargo 35 = .ok (.i2l, 1) := by decide +kernel
theorem dX12_cargo_36 : decode cX12_cargo 36 = .ok (.lconst 0, 1) := by decide +kernel
theorem dX12_cargo_37 : decode cX12_cargo 37 = .ok (.iload 6, 2) := by decide +kernel
theorem dX12_cargo_39 : decode cX12_cargo 39 = .ok (.i2l, 1) := by decide +kernel
theorem dX12_cargo_40 : decode cX12_cargo 40 = .ok (.invokestatic 99, 3) := by decide +kernel
theorem dX12_cargo_43 : decode cX12_cargo 43 = .ok (.ifCond .eq 29, 3) := by decide +kernel
theorem dX12_cargo_46 : decode cX12_cargo 46 = .ok (.iload 7, 2) := by decide +kernel
theorem dX12_cargo_48 : decode cX12_cargo 48 = .ok (.i2l, 1) := by decide +kernel
theorem dX12_cargo_49 : decode cX12_cargo 49 = .ok (.lconst 1, 1) := by decide +kernel
theorem dX12_cargo_50 : decode cX12_cargo 50 = .ok (.ldc2_w 124, 3) := by decide +kernel
theorem dX12_cargo_53 : decode cX12_cargo 53 = .ok (.invokestatic 99, 3) := by decide +kernel
theorem dX12_cargo_56 : decode cX12_cargo 56 = .ok (.ifCond .eq 16, 3) := by decide +kernel
theorem dX12_cargo_59 : decode cX12_cargo 59 = .ok (.iload 8, 2) := by decide +kernel
theorem dX12_cargo_61 : decode cX12_cargo 61 = .ok (.i2l, 1) := by decide +kernel
theorem dX12_cargo_62 : decode cX12_cargo 62 = .ok (.lconst 0, 1) := by decide +kernel
theorem dX12_cargo_63 : decode cX12_cargo 63 = .ok (.ldc2_w 122, 3) := by decide +kernel
theorem dX12_cargo_66 : decode cX12_cargo 66 = .ok (.invokestatic 99, 3) := by decide +kernel
theorem dX12_cargo_69 : decode cX12_cargo 69 = .ok (.ifCond .ne 9, 3) := by decide +kernel
theorem dX12_cargo_72 : decode cX12_cargo 72 = .ok (.aload_n 0, 1) := by decide +kernel
theorem dX12_cargo_73 : decode cX12_cargo 73 = .ok (.iconst (-1), 1) := by decide +kernel
theorem dX12_cargo_74 : decode cX12_cargo 74 = .ok (.invokevirtual 105, 3) := by decide +kernel
theorem dX12_cargo_77 : decode cX12_cargo 77 = .ok (.ireturn, 1) := by decide +kernel
theorem dX12_cargo_78 : decode cX12_cargo 78 = .ok (.aload_n 0, 1) := by decide +kernel
theorem dX12_cargo_79 : decode cX12_cargo 79 = .ok (.iload_n 1, 1) := by decide +kernel
theorem dX12_cargo_80 : decode cX12_cargo 80 = .ok (.invokevirtual 128, 3) := by decide +kernel
theorem dX12_cargo_83 : decode cX12_cargo 83 = .ok (.ifCond .eq 11, 3) := by decide +kernel
theorem dX12_cargo_94 : decode cX12_cargo 94 = .ok (.aload_n 0, 1) := by decide +kernel
theorem dX12_cargo_95 : decode cX12_cargo 95 = .ok (.bipush (-2), 2) := by decide +kernel
theorem dX12_cargo_97 : decode cX12_cargo 97 = .ok (.invokevirtual 105, 3) := by decide +kernel
theorem dX12_cargo_100 : decode cX12_cargo 100 = .ok (.ireturn, 1) := by decide +kernel
theorem dX12_clear_0 : decode cX12_clear 0 = .ok (.aload_n 0, 1) := by decide +kernel
theorem dX12_clear_1 : decode cX12_clear 1 = .ok (.iconst 0, 1) := by decide +kernel
theorem dX12_clear_2 : decode cX12_clear 2 = .ok (.putfield 91, 3) := by decide +kernel
theorem dX12_clear_5 : decode cX12_clear 5 = .ok (.aload_n 0, 1) := by decide +kernel
theorem dX12_clear_6 : decode cX12_clear 6 = .ok (.getfield 7, 3) := by decide +kernel
theorem dX12_clear_9 : decode cX12_clear 9 = .ok (.bipush 10, 2) := by decide +kernel
theorem dX12_clear_11 : decode cX12_clear 11 = .ok (.iaload, 1) := by decide +kernel
theorem dX12_clear_12 : decode cX12_clear 12 = .ok (.istore_n 1, 1) := by decide +kernel
theorem dX12_clear_13 : decode cX12_clear 13 = .ok (.aload_n 0, 1) := by decide +kernel
theorem dX12_clear_14 : decode cX12_clear 14 = .ok (.getfield 7, 3) := by decide +kernel
theorem dX12_clear_17 : decode cX12_clear 17 = .ok (.bipush 10, 2) := by decide +kernel
theorem dX12_clear_19 : decode cX12_clear 19 = .ok (.iconst 0, 1) := by decide +kernel
theorem dX12_clear_20 : decode cX12_clear 20 = .ok (.iastore, 1) := by decide +kernel
theorem dX12_clear_21 : decode cX12_clear 21 = .ok (.iload_n 1, 1) := by decide +kernel
theorem dX12_clear_22 : decode cX12_clear 22 = .ok (.ireturn, 1) := by decide +kernel
set_option maxRecDepth 20000 in
theorem ggX12_judge_X12_isShip : GoodIn wsX12_judge wsX12_isShip := goodIn_r _ [9, 4, 10, 11, 8, 12, 60, 61, 62, 63, 64, 65, 66, 67, 68, 69, 70, 71, 72, 73, 74, 75, 76, 77, 78, 79, 80, 81, 82, 83, 84, 85, 86, 87, 88, 89, 90, 91, 92, 93, 94, 95, 96, 97, 98, 99, 100, 101, 102, 103, 104, 105, 106, 107, 108, 109, 110, 111, 112] (by decide +kernel) (by decide +kernel)
set_option maxRecDepth 20000 in
theorem gX12_judge_X12_isShip : GoodIn wsX12_judge (wsV RX12 147 RX12 yX12_isShip wsX12_isShip) := goodIn_app (goodIn_of _ (by decide +kernel)) ggX12_judge_X12_isShip
theorem dX12_judge_0 : decode cX12_judge 0 = .ok (.aload_n 0, 1) := by decide +kernel
theorem dX12_judge_1 : decode cX12_judge 1 = .ok (.iconst 0, 1) := by decide +kernel
theorem dX12_judge_2 : decode cX12_judge 2 = .ok (.putfield 91, 3) := by decide +kernel
theorem dX12_judge_5 : decode cX12_judge 5 = .ok (.aload_n 0, 1) := by decide +kernel
theorem dX12_judge_6 : decode cX12_judge 6 = .ok (.iload_n 1, 1) := by decide +kernel
theorem dX12_judge_7 : decode cX12_judge 7 = .ok (.invokevirtual 147, 3) := by decide +kernel
theorem dX12_judge_10 : decode cX12_judge 10 = .ok (.ifCond .eq 11, 3) := by decide +kernel
theorem dX12_judge_21 : decode cX12_judge 21 = .ok (.ldc2_w 466, 3) := by decide +kernel
theorem dX12_judge_24 : decode cX12_judge 24 = .ok (.lreturn, 1) := by decide +kernel
theorem dX12_voyage_0 : decode cX12_voyage 0 = .ok (.aload_n 0, 1) := by decide +kernel
theorem dX12_voyage_1 : decode cX12_voyage 1 = .ok (.iconst 0, 1) := by decide +kernel
theorem dX12_voyage_2 : decode cX12_voyage 2 = .ok (.putfield 91, 3) := by decide +kernel
theorem dX12_voyage_5 : decode cX12_voyage 5 = .ok (.aload_n 0, 1) := by decide +kernel
theorem dX12_voyage_6 : decode cX12_voyage 6 = .ok (.getfield 538, 3) := by decide +kernel
theorem dX12_voyage_9 : decode cX12_voyage 9 = .ok (.ifCond .eq 44, 3) := by decide +kernel
theorem dX12_voyage_53 : decode cX12_voyage 53 = .ok (.ldc2_w 466, 3) := by decide +kernel
theorem dX12_voyage_56 : decode cX12_voyage 56 = .ok (.lreturn, 1) := by decide +kernel
theorem dX12_count_0 : decode cX12_count 0 = .ok (.aload_n 0, 1) := by decide +kernel
theorem dX12_count_1 : decode cX12_count 1 = .ok (.iconst 0, 1) := by decide +kernel
theorem dX12_count_2 : decode cX12_count 2 = .ok (.putfield 91, 3) := by decide +kernel
theorem dX12_count_5 : decode cX12_count 5 = .ok (.iload_n 1, 1) := by decide +kernel
theorem dX12_count_6 : decode cX12_count 6 = .ok (.tableswitch 115 0 8 #[50, 58, 65, 72, 79, 86, 94, 102, 110], 50) := by decide +kernel
theorem dX12_count_56 : decode cX12_count 56 = .ok (.aload_n 0, 1) := by decide +kernel
theorem dX12_count_57 : decode cX12_count 57 = .ok (.getfield 7, 3) := by decide +kernel
theorem dX12_count_60 : decode cX12_count 60 = .ok (.bipush 11, 2) := by decide +kernel
theorem dX12_count_62 : decode cX12_count 62 = .ok (.iaload, 1) := by decide +kernel
theorem dX12_count_63 : decode cX12_count 63 = .ok (.ireturn, 1) := by decide +kernel
theorem dX12_count_64 : decode cX12_count 64 = .ok (.aload_n 0, 1) := by decide +kernel
theorem dX12_count_65 : decode cX12_count 65 = .ok (.getfield 7, 3) := by decide +kernel
theorem dX12_count_68 : decode cX12_count 68 = .ok (.iconst 0, 1) := by decide +kernel
theorem dX12_count_69 : decode cX12_count 69 = .ok (.iaload, 1) := by decide +kernel
theorem dX12_count_70 : decode cX12_count 70 = .ok (.ireturn, 1) := by decide +kernel
theorem dX12_count_71 : decode cX12_count 71 = .ok (.aload_n 0, 1) := by decide +kernel
theorem dX12_count_72 : decode cX12_count 72 = .ok (.getfield 7, 3) := by decide +kernel
theorem dX12_count_75 : decode cX12_count 75 = .ok (.iconst 1, 1) := by decide +kernel
theorem dX12_count_76 : decode cX12_count 76 = .ok (.iaload, 1) := by decide +kernel
theorem dX12_count_77 : decode cX12_count 77 = .ok (.ireturn, 1) := by decide +kernel
theorem dX12_count_78 : decode cX12_count 78 = .ok (.aload_n 0, 1) := by decide +kernel
theorem dX12_count_79 : decode cX12_count 79 = .ok (.getfield 7, 3) := by decide +kernel
theorem dX12_count_82 : decode cX12_count 82 = .ok (.iconst 2, 1) := by decide +kernel
theorem dX12_count_83 : decode cX12_count 83 = .ok (.iaload, 1) := by decide +kernel
theorem dX12_count_84 : decode cX12_count 84 = .ok (.ireturn, 1) := by decide +kernel
theorem dX12_count_85 : decode cX12_count 85 = .ok (.aload_n 0, 1) := by decide +kernel
theorem dX12_count_86 : decode cX12_count 86 = .ok (.getfield 7, 3) := by decide +kernel
theorem dX12_count_89 : decode cX12_count 89 = .ok (.iconst 5, 1) := by decide +kernel
theorem dX12_count_90 : decode cX12_count 90 = .ok (.iaload, 1) := by decide +kernel
theorem dX12_count_91 : decode cX12_count 91 = .ok (.ireturn, 1) := by decide +kernel
theorem dX12_count_92 : decode cX12_count 92 = .ok (.aload_n 0, 1) := by decide +kernel
theorem dX12_count_93 : decode cX12_count 93 = .ok (.getfield 7, 3) := by decide +kernel
theorem dX12_count_96 : decode cX12_count 96 = .ok (.bipush 8, 2) := by decide +kernel
theorem dX12_count_98 : decode cX12_count 98 = .ok (.iaload, 1) := by decide +kernel
theorem dX12_count_99 : decode cX12_count 99 = .ok (.ireturn, 1) := by decide +kernel
theorem dX12_count_100 : decode cX12_count 100 = .ok (.aload_n 0, 1) := by decide +kernel
theorem dX12_count_101 : decode cX12_count 101 = .ok (.getfield 7, 3) := by decide +kernel
theorem dX12_count_104 : decode cX12_count 104 = .ok (.bipush 10, 2) := by decide +kernel
theorem dX12_count_106 : decode cX12_count 106 = .ok (.iaload, 1) := by decide +kernel
theorem dX12_count_107 : decode cX12_count 107 = .ok (.ireturn, 1) := by decide +kernel
theorem dX12_count_108 : decode cX12_count 108 = .ok (.aload_n 0, 1) := by decide +kernel
theorem dX12_count_109 : decode cX12_count 109 = .ok (.getfield 7, 3) := by decide +kernel
theorem dX12_count_112 : decode cX12_count 112 = .ok (.bipush 9, 2) := by decide +kernel
theorem dX12_count_114 : decode cX12_count 114 = .ok (.iaload, 1) := by decide +kernel
theorem dX12_count_115 : decode cX12_count 115 = .ok (.ireturn, 1) := by decide +kernel
theorem dX12_count_116 : decode cX12_count 116 = .ok (.aload_n 0, 1) := by decide +kernel
theorem dX12_count_117 : decode cX12_count 117 = .ok (.getfield 252, 3) := by decide +kernel
theorem dX12_count_120 : decode cX12_count 120 = .ok (.ireturn, 1) := by decide +kernel
theorem dX12_count_121 : decode cX12_count 121 = .ok (.iconst (-1), 1) := by decide +kernel
theorem dX12_count_122 : decode cX12_count 122 = .ok (.ireturn, 1) := by decide +kernel
theorem dX12_status_0 : decode cX12_status 0 = .ok (.aload_n 0, 1) := by decide +kernel
theorem dX12_status_1 : decode cX12_status 1 = .ok (.iconst 0, 1) := by decide +kernel
theorem dX12_status_2 : decode cX12_status 2 = .ok (.putfield 91, 3) := by decide +kernel
theorem dX12_status_5 : decode cX12_status 5 = .ok (.aload_n 0, 1) := by decide +kernel
theorem dX12_status_6 : decode cX12_status 6 = .ok (.getfield 94, 3) := by decide +kernel
theorem dX12_status_9 : decode cX12_status 9 = .ok (.ireturn, 1) := by decide +kernel
abbrev vwCl : List vw_C := [(RX0, TX0, 5), (RX1, TX1, 15), (RX2, TX2, 16), (RX3, TX3, 6), (RX4, TX4, 3), (RX5, TX5, 17), (RX6, TX6, 4), (RX7, TX7, 7), (RX8, TX8, 7), (RX9, TX9, 4), (RX10, TX10, 19), (RX11, TX11, 7), (RX12, TX12, 53)]
