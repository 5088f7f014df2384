/-- the links between nest mates that the tables have -/
def nz_L : List Cond := [.fieldLinkNest RX11 353 "ColdShips$Spans" "size" "I" "ColdShips", .fieldLinkNest RX1 54 "ColdShips$Rows" "size" "I" "ColdShips", .fieldLinkNest RX10 105 "ColdShips$Rows" "size" "I" "ColdShips", .fieldLinkNest RX3 143 "ColdShips$Rows" "size" "I" "ColdShips", .fieldLinkNest RX11 242 "ColdShips$Rows" "size" "I" "ColdShips", .fieldLinkNest RX9 189 "ColdShips$Terminal" "store" "I" "ColdShips", .fieldLinkNest RX11 204 "ColdShips$Terminal" "store" "I" "ColdShips", .fieldLinkNest RX9 199 "ColdShips$Terminal" "cap" "I" "ColdShips", .fieldLinkNest RX9 172 "ColdShips$Terminal" "rate" "I" "ColdShips", .fieldLinkNest RX9 146 "ColdShips$Terminal" "depth" "I" "ColdShips", .fieldLinkNest RX10 100 "ColdShips$Terminal" "heat" "I" "ColdShips", .fieldLinkNest RX11 226 "ColdShips$Terminal" "heat" "I" "ColdShips", .fieldLinkNest RX10 97 "ColdShips$Terminal" "wayHours" "[I" "ColdShips", .fieldLinkNest RX9 125 "ColdShips$Terminal" "wayHalf" "[I" "ColdShips", .fieldLinkNest RX9 183 "ColdShips$Tank" "gas" "I" "ColdShips", .fieldLinkNest RX11 170 "ColdShips$Tank" "gas" "I" "ColdShips", .fieldLinkNest RX11 175 "ColdShips$Tank" "vapor" "I" "ColdShips", .fieldLinkNest RX9 169 "ColdShips$Tank" "warm" "I" "ColdShips", .fieldLinkNest RX11 178 "ColdShips$Tank" "warm" "I" "ColdShips", .fieldLinkNest RX11 195 "ColdShips$Tank" "parts" "[I" "ColdShips", .fieldLinkNest RX5 90 "ColdShips$Tank" "given" "[I" "ColdShips", .fieldLinkNest RX9 55 "ColdShips$Ship" "tank" "LColdShips$Tank;" "ColdShips", .fieldLinkNest RX11 166 "ColdShips$Ship" "tank" "LColdShips$Tank;" "ColdShips", .fieldLinkNest RX1 154 "ColdShips$Ship" "tank" "LColdShips$Tank;" "ColdShips", .fieldLinkNest RX9 70 "ColdShips$Ship" "fuel" "I" "ColdShips", .fieldLinkNest RX1 200 "ColdShips$Ship" "fuel" "I" "ColdShips", .fieldLinkNest RX1 84 "ColdShips$Ship" "where" "I" "ColdShips", .fieldLinkNest RX9 114 "ColdShips$Ship" "where" "I" "ColdShips", .fieldLinkNest RX11 160 "ColdShips$Ship" "where" "I" "ColdShips", .fieldLinkNest RX9 50 "ColdShips$Ship" "left" "I" "ColdShips", .fieldLinkNest RX11 163 "ColdShips$Ship" "left" "I" "ColdShips", .fieldLinkNest RX9 130 "ColdShips$Ship" "half" "I" "ColdShips", .fieldLinkNest RX9 133 "ColdShips$Ship" "drifting" "Z" "ColdShips", .fieldLinkNest RX11 191 "ColdShips$Ship" "drifting" "Z" "ColdShips", .fieldLinkNest RX9 76 "ColdShips$Ship" "orders" "I" "ColdShips", .fieldLinkNest RX11 144 "ColdShips$Ship" "orders" "I" "ColdShips", .fieldLinkNest RX9 79 "ColdShips$Ship" "orderSorts" "[I" "ColdShips", .fieldLinkNest RX9 97 "ColdShips$Ship" "orderWhats" "[I" "ColdShips", .fieldLinkNest RX9 103 "ColdShips$Ship" "book" "[J" "ColdShips", .fieldLinkNest RX11 200 "ColdShips$Ship" "book" "[J" "ColdShips", .fieldLinkNest RX9 227 "ColdShips$Ship" "landFirst" "I" "ColdShips", .fieldLinkNest RX9 230 "ColdShips$Ship" "landLast" "I" "ColdShips", .fieldLinkNest RX9 211 "ColdShips$Ship" "landTons" "I" "ColdShips", .fieldLinkNest RX9 233 "ColdShips$Ship" "landParts" "[I" "ColdShips", .fieldLinkNest RX3 146 "ColdShips$Ship" "list" "I" "ColdShips", .fieldLinkNest RX11 303 "ColdShips$Ship" "list" "I" "ColdShips", .fieldLinkNest RX11 297 "ColdShips$Ship" "gaugeCentimetres" "[I" "ColdShips", .fieldLinkNest RX11 300 "ColdShips$Ship" "gaugeTons" "[I" "ColdShips", .fieldLinkNest RX9 15 "ColdShips$World" "now" "I" "ColdShips", .fieldLinkNest RX11 154 "ColdShips$World" "now" "I" "ColdShips", .fieldLinkNest RX9 59 "ColdShips$World" "boils" "I" "ColdShips", .fieldLinkNest RX11 135 "ColdShips$World" "boils" "I" "ColdShips", .fieldLinkNest RX1 186 "ColdShips$World" "boils" "I" "ColdShips", .fieldLinkNest RX9 107 "ColdShips$World" "limit" "I" "ColdShips", .fieldLinkNest RX11 138 "ColdShips$World" "limit" "I" "ColdShips", .fieldLinkNest RX11 147 "ColdShips$World" "ordersGiven" "I" "ColdShips", .fieldLinkNest RX11 59 "ColdShips$World" "terminalCount" "I" "ColdShips", .fieldLinkNest RX9 39 "ColdShips$World" "shipCount" "I" "ColdShips", .fieldLinkNest RX11 81 "ColdShips$World" "shipCount" "I" "ColdShips", .fieldLinkNest RX1 74 "ColdShips$World" "shipCount" "I" "ColdShips", .fieldLinkNest RX11 261 "ColdShips$World" "contractCount" "I" "ColdShips", .fieldLinkNest RX11 97 "ColdShips$World" "tides" "[I" "ColdShips", .fieldLinkNest RX9 149 "ColdShips$World" "tides" "[I" "ColdShips", .fieldLinkNest RX9 28 "ColdShips$World" "seas" "[I" "ColdShips", .fieldLinkNest RX11 101 "ColdShips$World" "seas" "[I" "ColdShips", .fieldLinkNest RX11 63 "ColdShips$World" "terminals" "[LColdShips$Terminal;" "ColdShips", .fieldLinkNest RX9 121 "ColdShips$World" "terminals" "[LColdShips$Terminal;" "ColdShips", .fieldLinkNest RX1 171 "ColdShips$World" "terminals" "[LColdShips$Terminal;" "ColdShips", .fieldLinkNest RX9 46 "ColdShips$World" "ships" "[LColdShips$Ship;" "ColdShips", .fieldLinkNest RX11 84 "ColdShips$World" "ships" "[LColdShips$Ship;" "ColdShips", .fieldLinkNest RX1 80 "ColdShips$World" "ships" "[LColdShips$Ship;" "ColdShips", .fieldLinkNest RX3 128 "ColdShips$World" "ships" "[LColdShips$Ship;" "ColdShips", .fieldLinkNest RX11 271 "ColdShips$World" "contracts" "[LColdShips$Contract;" "ColdShips", .fieldLinkNest RX9 156 "ColdShips$World" "slots" "LColdShips$Spans;" "ColdShips", .fieldLinkNest RX11 111 "ColdShips$World" "slots" "LColdShips$Spans;" "ColdShips", .fieldLinkNest RX9 166 "ColdShips$World" "breaks" "LColdShips$Spans;" "ColdShips", .fieldLinkNest RX11 132 "ColdShips$World" "breaks" "LColdShips$Spans;" "ColdShips", .fieldLinkNest RX1 167 "ColdShips$World" "breaks" "LColdShips$Spans;" "ColdShips", .fieldLinkNest RX3 73 "ColdShips$World" "forces" "LColdShips$Spans;" "ColdShips", .fieldLinkNest RX11 245 "ColdShips$World" "forces" "LColdShips$Spans;" "ColdShips", .fieldLinkNest RX11 232 "ColdShips$World" "prices" "LColdShips$Rows;" "ColdShips", .fieldLinkNest RX3 140 "ColdShips$World" "readings" "LColdShips$Rows;" "ColdShips", .fieldLinkNest RX11 306 "ColdShips$World" "readings" "LColdShips$Rows;" "ColdShips", .fieldLinkNest RX3 46 "ColdShips$World" "landings" "LColdShips$Rows;" "ColdShips", .fieldLinkNest RX9 214 "ColdShips$World" "landings" "LColdShips$Rows;" "ColdShips", .fieldLinkNest RX11 207 "ColdShips$World" "landings" "LColdShips$Rows;" "ColdShips", .fieldLinkNest RX1 50 "ColdShips$World" "cargoes" "LColdShips$Rows;" "ColdShips", .fieldLinkNest RX11 319 "ColdShips$World" "cargoes" "LColdShips$Rows;" "ColdShips", .fieldLinkNest RX11 260 "ColdShips$Reader" "size" "I" "ColdShips", .fieldLinkNest RX11 275 "ColdShips$Reader" "faultAt" "I" "ColdShips", .fieldLinkNest RX11 294 "ColdShips$Reckoner" "facts" "[J" "ColdShips", .fieldLinkNest RX11 287 "ColdShips$Reckoner" "pays" "J" "ColdShips", .fieldLinkNest RX11 291 "ColdShips$Reckoner" "fines" "J" "ColdShips", .fieldLinkNest RX11 325 "ColdShips$Planner" "planned" "I" "ColdShips", .fieldLinkNest RX11 328 "ColdShips$Planner" "shipOf" "[I" "ColdShips", .fieldLinkNest RX11 331 "ColdShips$Planner" "placeOf" "[I" "ColdShips", .fieldLinkNest RX11 334 "ColdShips$Planner" "loadOf" "[I" "ColdShips", .fieldLinkNest RX11 337 "ColdShips$Planner" "landOf" "[I" "ColdShips", .fieldLinkNest RX11 340 "ColdShips$Planner" "worthOf" "[J" "ColdShips", .fieldLinkNest RX3 39 "ColdShips$Contract" "code" "[I" "ColdShips", .fieldLinkNest RX3 33 "ColdShips$Contract" "starts" "[I" "ColdShips", .fieldLinkNest RX3 86 "ColdShips$Contract" "windowFrom" "I" "ColdShips", .fieldLinkNest RX3 77 "ColdShips$Contract" "windowTo" "I" "ColdShips", .fieldLinkNest RX3 58 "ColdShips$Contract" "place" "I" "ColdShips", .methodLinkNest RX10 76 yX8_init "ColdShips", .methodLinkNest RX10 77 yX5_init "ColdShips", .methodLinkNest RX5 11 yX7_init "ColdShips", .methodLinkNest RX11 31 yX2_init "ColdShips", .methodLinkNest RX8 46 yX11_within "ColdShips", .methodLinkNest RX9 21 yX11_isHour "ColdShips", .methodLinkNest RX9 143 yX11_slotOwner "ColdShips", .methodLinkNest RX2 186 yX11_within "ColdShips", .castable "[I" "java/lang/Cloneable"]
def nz_is : Cond → Bool
  | .fieldLinkNest _ _ _ _ _ _ => true
  | .methodLinkNest _ _ _ _ => true
  | .castable _ _ => true
  | _ => false
theorem nz_all : nz_L.all nz_is = true := by decide +kernel
theorem nz_warm {w : Cond} {s U : State} (h : nz_is w = true) (hW : s.WarmedH U.vm) (hZ : va_Nw w s) : va_Nw w U := by
  cases w <;> first | exact va_Nw.warmF hW hZ | exact va_Nw.warmM hW hZ | exact va_Nw.warmC hW hZ | (simp [nz_is] at h)
theorem nz_tab {w : Cond} (h : nz_is w = true) : w.onTables = true := by
  cases w <;> first | rfl | (simp [nz_is] at h)
def nz_T : List (Nat × String) := [(84, "window"), (93, "at"), (102, "pay"), (108, "fine")]
def nz_ok (U : State) : Prop := (∀ w ∈ nz_L, va_Nw w U) ∧ va_AO RX10 U ∧ va_AO RX8 U ∧ va_AO RX5 U ∧ va_AO RX0 U ∧ ∀ q ∈ nz_T, ∃ a, vk_R RX2 q.1 q.2 a U
theorem nz_moved {s U : State} (hW : s.WarmedH U.vm) (h : nz_ok s) : nz_ok U := ⟨fun w hw => nz_warm (List.all_eq_true.mp nz_all w hw) hW (h.1 w hw), h.2.1.moved hW.alike, h.2.2.1.moved hW.alike, h.2.2.2.1.moved hW.alike, h.2.2.2.2.1.moved hW.alike, fun q hq => (h.2.2.2.2.2 q hq).imp (fun _ h => vk_R.warm hW h)⟩
theorem nz_call {U : State} {g : JFrame} {mk : MethodId} {a : Array Value} (h : nz_ok U) : nz_ok (U.calling g mk a) := ⟨fun w hw => va_Nw.same (u := U) (U := U.calling g mk a) (nz_tab (List.all_eq_true.mp nz_all w hw)) rfl (h.1 w hw), va_AO.moved (u := U) (U := U.calling g mk a) (Vm.Alike.refl U.vm) h.2.1, va_AO.moved (u := U) (U := U.calling g mk a) (Vm.Alike.refl U.vm) h.2.2.1, va_AO.moved (u := U) (U := U.calling g mk a) (Vm.Alike.refl U.vm) h.2.2.2.1, va_AO.moved (u := U) (U := U.calling g mk a) (Vm.Alike.refl U.vm) h.2.2.2.2.1, fun q hq => (h.2.2.2.2.2 q hq).imp (fun _ h => vk_R.same (u := U) (U := U.calling g mk a) rfl h)⟩
/-- a contract's start: cells, array classes, apart, links of nest mates -/
def pz_B (dC : Nat → ClassId) (dI : Nat → Nat → Nat) (tys : List (ClassId × FieldType)) (ws : va_W) (sz : Nat) (U : State) : Prop := U.heap.size = sz ∧ va_P (dC, dI) vwCl ws U.heap ∧ va_K (dC, dI) vwCl tys U ∧ va_D (fun _ => True) ws ∧ nz_ok U
/-- a contract's end -/
def pz_E (dC : Nat → ClassId) (dI : Nat → Nat → Nat) (tys : List (ClassId × FieldType)) (A : Nat → Prop) (ws : va_W) (t : State) : Prop := va_P (dC, dI) vwCl ws t.heap ∧ va_K (dC, dI) vwCl tys t ∧ va_D A ws
theorem pz_blind {dC : Nat → ClassId} {dI : Nat → Nat → Nat} {tys : List (ClassId × FieldType)} {ws : va_W} {sz : Nat} {av : List Value} : FrameBlind (va_Pc av (pz_B dC dI tys ws sz)) := by
  intro a U g mk q
  obtain ⟨q0, q1, qP, qK, qD, qN⟩ := q
  exact ⟨q0, q1, qP, va_K.moved (u := U) (U := U.calling g mk a) (Vm.Alike.refl U.vm) qK, qD, nz_call qN⟩
theorem pz_pre {dC : Nat → ClassId} {dI : Nat → Nat → Nat} {tys : List (ClassId × FieldType)} {ws : va_W} {A : Nat → Prop} {s : State} {H : Heap} {av : List Value} (hP : va_P (dC, dI) vwCl ws H) (hK : va_K (dC, dI) vwCl tys s) (hD : va_D A ws) (hN : nz_ok s) : ∀ U : State, U.heap = H → s.WarmedH U.vm → va_Pc av (pz_B dC dI tys ws H.size) av.toArray U :=
  fun U hU hW => ⟨rfl, by rw [hU], by rw [hU]; exact hP, va_K.moved hW.alike hK, hD.weaken (fun _ _ _ _ => trivial), nz_moved hW hN⟩
theorem pz_P0 {D : va_G} {cl : List vw_C} {H : Heap} : va_P D cl [] H := fun k q h => by simp at h
theorem pz_D0 {A : Nat → Prop} : va_D A [] := ⟨fun i j p q h => by simp at h, fun k q h => by simp at h⟩
/-- a contract's end with null as the answer -/
def pz_Qn (B : Unit → State → Prop) (A : Nat → Prop) : Array Value → State → Outcome → State → Prop := fun _ st oc t => (oc = .returned (some .null) ∧ B () t) ∧ va_F A st t
section PZ
variable {p : Program} {l : Launch} {e : Env} {R : Room} {s : State} {m : MethodId} {args : Array Value} {below : List Frame} {meth : Method} {c : Code} {H : Heap} {locs : List Loc} {cells slots : Nat} {Q : State → Prop} {pc : Nat} {ls : Array Slot} {rest : List Value}
theorem pz_calli {post : Int32 → Prop} {a : Array Value} {st0 : List Value} (hr : va_Run p l e R s m args below meth c H locs cells slots 0 0 (F0 m pc ls st0) rest (vp_Si post a) (fun _ => False))
    (kk : ∀ r : Int32, post r → W p l e R s m args below meth c H locs cells slots Q (F0 m (pc + 3) ls (.int r :: rest))) : W p l e R s m args below meth c H locs cells slots Q (F0 m pc ls st0) := by
  intro T hT X
  obtain ⟨v, st₀, t, T', L, h0, X', hL, e1, e2, ⟨r, hv, hp, hh⟩, st⟩ := hr T hT X
  cases hv
  obtain ⟨t2, a1, b1⟩ := kk r hp T' (by rw [e1, hh, h0]) (Stand.forget X' (fun q h => (hL q h).elim))
  exact ⟨t2, st t2 a1, b1⟩
theorem pz_calll {post : Int64 → Prop} {a : Array Value} {st0 : List Value} (hr : va_Run p l e R s m args below meth c H locs cells slots 0 0 (F0 m pc ls st0) rest (vp_Sl post a) (fun _ => False))
    (kk : ∀ r : Int64, post r → W p l e R s m args below meth c H locs cells slots Q (F0 m (pc + 3) ls (.long r :: rest))) : W p l e R s m args below meth c H locs cells slots Q (F0 m pc ls st0) := by
  intro T hT X
  obtain ⟨v, st₀, t, T', L, h0, X', hL, e1, e2, ⟨r, hv, hp, hh⟩, st⟩ := hr T hT X
  cases hv
  obtain ⟨t2, a1, b1⟩ := kk r hp T' (by rw [e1, hh, h0]) (Stand.forget X' (fun q h => (hL q h).elim))
  exact ⟨t2, st t2 a1, b1⟩
theorem pz_calln {B : Unit → State → Prop} {A1 A0 : Nat → Prop} {H0 : Heap} {mc ms : Nat} {free : Addr → Prop} {a : Array Value} {st0 : List Value} (hr : va_Run p l e R s m args below meth c H locs cells slots mc ms (F0 m pc ls st0) rest (pz_Qn B A1 a) free) (hS : va_S A0 H0 H locs) (hA : ∀ q, q < H.size → A1 q → A0 q) (hf : ∀ q, free q → A0 q)
    (kk : ∀ (t : State) (H1 : Heap) (locs1 : List Loc), t.heap = H1 → s.vm.Alike t.vm → B () t → H.size ≤ H1.size → (∀ q : Nat, q < H.size → ¬ A1 q → H1[q]? = H[q]?) → va_S A0 H0 H1 locs1 → W p l e R s m args below meth c H1 locs1 (cells + mc) (slots + ms) Q (F0 m (pc + 3) ls (.null :: rest))) : W p l e R s m args below meth c H locs cells slots Q (F0 m pc ls st0) := by
  intro T hT X
  obtain ⟨v, st₀, t, T', L, h0, X', hL, e1, e2, ⟨⟨hv, hb⟩, hz, hk⟩, st⟩ := hr T hT X
  cases hv
  rw [h0] at hz hk
  obtain ⟨t2, a1, b1⟩ := kk t T'.heap (locs ++ L) e1.symm (by rw [← e2]; exact X'.warmed.alike) hb (by rw [e1]; exact hz) (fun q h1 h2 => by rw [e1]; exact hk q h1 h2)
    ⟨Nat.le_trans hS.1 (by rw [e1]; exact hz), fun q h1 h2 => by rw [e1, hk q (Nat.lt_of_lt_of_le h1 hS.1) (fun z => h2 (hA q (Nat.lt_of_lt_of_le h1 hS.1) z))]; exact hS.2.1 q h1 h2, fun q hq => by
      rcases List.mem_append.mp hq with h | h
      · exact hS.2.2 q h
      · exact hf _ (hL q h)⟩ T' rfl X'
  exact ⟨t2, st t2 a1, b1⟩
theorem pz_loop (Inv : Nat → Heap → List Loc → Array Slot → Prop)
    (hs : ∀ (n : Nat) (H : Heap) (locs : List Loc) (ls : Array Slot), Inv n H locs ls → (∀ (n' : Nat) (H : Heap) (locs : List Loc) (ls : Array Slot), n' < n → Inv n' H locs ls → W p l e R s m args below meth c H locs cells slots Q (F0 m pc ls [])) → W p l e R s m args below meth c H locs cells slots Q (F0 m pc ls [])) :
    ∀ (n : Nat) (H : Heap) (locs : List Loc) (ls : Array Slot), Inv n H locs ls → W p l e R s m args below meth c H locs cells slots Q (F0 m pc ls []) := by
  intro n
  induction n using Nat.strongRecOn with
  | ind n ih => exact fun H locs ls h => hs n H locs ls h (fun n' H locs ls hn h => ih n' hn H locs ls h)
end PZ
section ZI
variable {x y : Int32} {X Y : Int}
theorem zi_eq (hx : x.toInt = X) (hy : y.toInt = Y) (h : x = y) : X = Y := by rw [← hx, ← hy, h]
theorem zi_eqf (hx : x.toInt = X) (hy : y.toInt = Y) (h : ¬ x = y) : X ≠ Y := fun q => h (Int32.toInt_inj.mp (by rw [hx, hy]; exact q))
theorem zi_ne (hx : x.toInt = X) (hy : y.toInt = Y) (h : ¬ x = y) : X ≠ Y := zi_eqf hx hy h
theorem zi_nef (hx : x.toInt = X) (hy : y.toInt = Y) (h : x = y) : X = Y := zi_eq hx hy h
theorem zi_lt (hx : x.toInt = X) (hy : y.toInt = Y) (h : x < y) : X < Y := by rw [← hx, ← hy]; exact Int32.lt_iff_toInt_lt.mp h
theorem zi_ltf (hx : x.toInt = X) (hy : y.toInt = Y) (h : ¬ x < y) : X ≥ Y := by rw [← hx, ← hy]; exact Int.not_lt.mp (fun q => h (Int32.lt_iff_toInt_lt.mpr q))
theorem zi_ge (hx : x.toInt = X) (hy : y.toInt = Y) (h : y ≤ x) : X ≥ Y := by rw [← hx, ← hy]; exact Int32.le_iff_toInt_le.mp h
theorem zi_gef (hx : x.toInt = X) (hy : y.toInt = Y) (h : ¬ y ≤ x) : X < Y := by rw [← hx, ← hy]; exact Int.not_le.mp (fun q => h (Int32.le_iff_toInt_le.mpr q))
theorem zi_gt (hx : x.toInt = X) (hy : y.toInt = Y) (h : y < x) : X > Y := by rw [← hx, ← hy]; exact Int32.lt_iff_toInt_lt.mp h
theorem zi_gtf (hx : x.toInt = X) (hy : y.toInt = Y) (h : ¬ y < x) : X ≤ Y := zi_ltf hy hx h
theorem zi_le (hx : x.toInt = X) (hy : y.toInt = Y) (h : x ≤ y) : X ≤ Y := zi_ge hy hx h
theorem zi_lef (hx : x.toInt = X) (hy : y.toInt = Y) (h : ¬ x ≤ y) : X > Y := zi_gef hy hx h
theorem zi_bm (a : Int) (h1 : -2147483648 ≤ a) (h2 : a ≤ 2147483647) : a.bmod (2 ^ 32) = a := by
  unfold Int.bmod
  simp only []
  split <;> omega
theorem zi_add {z : Int32} (e : z = x + y) (hx : x.toInt = X) (hy : y.toInt = Y) (h1 : -2147483648 ≤ X + Y) (h2 : X + Y ≤ 2147483647) : z.toInt = X + Y := by
  rw [e, Int32.toInt_add, hx, hy]; exact zi_bm _ h1 h2
theorem zi_sub {z : Int32} (e : z = x - y) (hx : x.toInt = X) (hy : y.toInt = Y) (h1 : -2147483648 ≤ X - Y) (h2 : X - Y ≤ 2147483647) : z.toInt = X - Y := by
  rw [e, Int32.toInt_sub, hx, hy]; exact zi_bm _ h1 h2
theorem zi_mul {z : Int32} (e : z = x * y) (hx : x.toInt = X) (hy : y.toInt = Y) (h1 : -2147483648 ≤ X * Y) (h2 : X * Y ≤ 2147483647) : z.toInt = X * Y := by
  rw [e, Int32.toInt_mul, hx, hy]; exact zi_bm _ h1 h2
theorem zi_div {z : Int32} (e : z = x / y) (hx : x.toInt = X) (hy : y.toInt = Y) (h0 : 0 ≤ X) (h1 : 0 < Y) : z.toInt = X / Y := by
  have hX : X ≤ 2147483647 := by rw [← hx]; have := x.toInt_lt; omega
  rw [e, Int32.toInt_div, hx, hy, Int.tdiv_eq_ediv_of_nonneg h0]
  have a : 0 ≤ X / Y := Int.ediv_nonneg h0 (by omega)
  have b : X / Y ≤ X := Int.ediv_le_self _ h0
  exact zi_bm _ (by omega) (by omega)
end ZI
section ZL
variable {x y : Int64} {X Y : Int}
theorem zl_cmp (x y : Int64) : (lg_cmp x y).toInt = if x.toInt > y.toInt then 1 else if x.toInt = y.toInt then 0 else -1 := by
  unfold lg_cmp
  simp only [gt_iff_lt, Int64.lt_iff_toInt_lt, ← Int64.toInt_inj]
  split
  · rfl
  · split <;> rfl
theorem zl_eq (hx : x.toInt = X) (hy : y.toInt = Y) (h : lg_cmp x y = 0) : X = Y := by
  have h2 := zi_eq (zl_cmp x y) (show (0 : Int32).toInt = 0 from rfl) h; rw [hx, hy] at h2; split at h2 <;> try split at h2
  all_goals omega
theorem zl_eqf (hx : x.toInt = X) (hy : y.toInt = Y) (h : ¬ lg_cmp x y = 0) : X ≠ Y := by
  have h2 := zi_eqf (zl_cmp x y) (show (0 : Int32).toInt = 0 from rfl) h; rw [hx, hy] at h2; split at h2 <;> try split at h2
  all_goals omega
theorem zl_ne (hx : x.toInt = X) (hy : y.toInt = Y) (h : ¬ lg_cmp x y = 0) : X ≠ Y := zl_eqf hx hy h
theorem zl_nef (hx : x.toInt = X) (hy : y.toInt = Y) (h : lg_cmp x y = 0) : X = Y := zl_eq hx hy h
theorem zl_lt (hx : x.toInt = X) (hy : y.toInt = Y) (h : lg_cmp x y < 0) : X < Y := by
  have h2 := zi_lt (zl_cmp x y) (show (0 : Int32).toInt = 0 from rfl) h; rw [hx, hy] at h2; split at h2 <;> try split at h2
  all_goals omega
theorem zl_ltf (hx : x.toInt = X) (hy : y.toInt = Y) (h : ¬ lg_cmp x y < 0) : X ≥ Y := by
  have h2 := zi_ltf (zl_cmp x y) (show (0 : Int32).toInt = 0 from rfl) h; rw [hx, hy] at h2; split at h2 <;> try split at h2
  all_goals omega
theorem zl_ge (hx : x.toInt = X) (hy : y.toInt = Y) (h : 0 ≤ lg_cmp x y) : X ≥ Y := by
  have h2 := zi_ge (zl_cmp x y) (show (0 : Int32).toInt = 0 from rfl) h; rw [hx, hy] at h2; split at h2 <;> try split at h2
  all_goals omega
theorem zl_gef (hx : x.toInt = X) (hy : y.toInt = Y) (h : ¬ 0 ≤ lg_cmp x y) : X < Y := by
  have h2 := zi_gef (zl_cmp x y) (show (0 : Int32).toInt = 0 from rfl) h; rw [hx, hy] at h2; split at h2 <;> try split at h2
  all_goals omega
theorem zl_gt (hx : x.toInt = X) (hy : y.toInt = Y) (h : 0 < lg_cmp x y) : X > Y := by
  have h2 := zi_gt (zl_cmp x y) (show (0 : Int32).toInt = 0 from rfl) h; rw [hx, hy] at h2; split at h2 <;> try split at h2
  all_goals omega
theorem zl_gtf (hx : x.toInt = X) (hy : y.toInt = Y) (h : ¬ 0 < lg_cmp x y) : X ≤ Y := by
  have h2 := zi_gtf (zl_cmp x y) (show (0 : Int32).toInt = 0 from rfl) h; rw [hx, hy] at h2; split at h2 <;> try split at h2
  all_goals omega
theorem zl_le (hx : x.toInt = X) (hy : y.toInt = Y) (h : lg_cmp x y ≤ 0) : X ≤ Y := by
  have h2 := zi_le (zl_cmp x y) (show (0 : Int32).toInt = 0 from rfl) h; rw [hx, hy] at h2; split at h2 <;> try split at h2
  all_goals omega
theorem zl_lef (hx : x.toInt = X) (hy : y.toInt = Y) (h : ¬ lg_cmp x y ≤ 0) : X > Y := by
  have h2 := zi_lef (zl_cmp x y) (show (0 : Int32).toInt = 0 from rfl) h; rw [hx, hy] at h2; split at h2 <;> try split at h2
  all_goals omega
theorem zi_sw (x : Int32) (lo hi : Int) : (x.toInt < lo ∨ hi < x.toInt) ∨ (lo ≤ x.toInt ∧ x.toInt ≤ hi) := by omega
end ZL
