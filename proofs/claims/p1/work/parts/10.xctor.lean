set_option maxHeartbeats 4000000 in
set_option maxRecDepth 100000 in
theorem c_X8_init (l : Launch) (dC : Nat → ClassId) (dI : Nat → Nat → Nat) (sz : Nat) (t0 : Nat)  : Met l yX8_init wsX8_init ({ frames := 3, cells := 2, slots := 12, locals := 800 }) (va_Pc [.ref t0] (pz_B dC dI [] [(t0, .inr (8, [.int 0, .int 0, .int 0, .int 0, .int 0, .null, .null]))] sz)) (va_Qv (fun (_ : Unit) => True) (fun (_ : Unit) (t : State) => ∃ twh : Nat, ∃ twf : Nat, ∃ kW : ClassId, pz_E dC dI [(kW, .int)] (va_A [(t0, .inr (8, [.int 0, .int 0, .int 0, .int 0, .int 0, .null, .null]))] sz) [(t0, .inr (8, [.int 0, .int 0, .int 1, .int 0, .int 0, .ref twh, .ref twf])), (twh, .inl (kW, 6, .inl (fun _ => 0)))] t) (va_A [(t0, .inr (8, [.int 0, .int 0, .int 0, .int 0, .int 0, .null, .null]))] sz)) 2 12 (va_A [(t0, .inr (8, [.int 0, .int 0, .int 0, .int 0, .int 0, .null, .null]))] sz) := by
  refine Met.ofW (cc := cX8_init) (maxL := 1) (ret := none) (by decide) rfl ?_
  intro p e s m args below meth c s₁ B hml hv
  obtain ⟨rfl, hsz, hP, hK, hD0, hN⟩ := hv
  have hx := B.exec
  have hb := B.bytes
  have hr := B.returns
  have hts := atoms_spec (ws := wsX8_init) B.pre
  have hown : s.vm.findClass RX8 = some m.cls := findClass_of_methodNamed B.named
  have hlocks := B.notSynchronized
  have hin : meth.name = "<init>" := (name_of_methodNamed B.named B.method).1
  subst hsz
  have hD := hD0.self (sz := s.heap.size)
  generalize hAe : va_A [(t0, .inr (8, [.int 0, .int 0, .int 0, .int 0, .int 0, .null, .null]))] s.heap.size = A at hD ⊢
  have hA : ∀ q : Nat, s.heap.size ≤ q → A q := fun q h => by rw [← hAe]; exact Or.inr h
  have hS : va_S A s.heap s.heap [] := va_S.rf
  have hl := lv_entry ([.ref t0]) (n := 1) (Nat.le_of_ble_eq_true rfl)
  rw [lg_entry_eq]
  generalize (lg_sl ([.ref t0]) ++ List.replicate (1 - (lg_sl ([.ref t0])).length) Slot.unset).toArray = ls at hl ⊢
  have hl : lv_has ls 1 [(0, .ref t0)] := hl
  have hfX8 : ∀ w ∈ wsX80, w ∈ wsX8_init := fun w h => List.mem_cons_of_mem _ (List.mem_append_right _ h)
  refine lv_aload_n hx hb dX8_init_0 rfl (lv_at hl 0 rfl) ?_
  refine W.objInit hx hb hown (hts (.methodLink RX8 3 objectInit) (by decide +kernel)) (hts (.instanceMethod objectInit) (by decide +kernel)) (hts (.code objectInit ⟨#[0xb1]⟩ 1 none) (by decide +kernel)) rfl (by rw [hml]; exact hl.1) rfl dX8_init_1 (Nat.le_of_ble_eq_true rfl) (Nat.le_of_ble_eq_true rfl) ?_
  refine W.eq (g2 := F0 m 4 ls []) rfl ?_
  refine lv_aload_n hx hb dX8_init_4 rfl (lv_at hl 0 rfl) ?_
  refine lv_iconst (v := 1) hx hb dX8_init_5 (by decide) ?_
  refine va_put (D := (dC, dI)) (ci := 8) (v := .int 1) (ty := .int) (C := RX8) (T := TX8) (N := 7) hx hb hts hfX8 tyX8 tyX8_ok nmX8 hown hK hP hD hS 0 rfl rfl 2 (by decide) (hts (.fieldLink RX8 9 "ColdShips$Terminal" "rate" "I") (by decide +kernel)) (fun _ h9 => h9) rfl (by decide +kernel) rfl rfl (Nat.le_of_ble_eq_true rfl) dX8_init_6 (fun H locs hP hD hS => ?_)
  have hP : va_P (dC, dI) vwCl [(t0, .inr (8, [.int 0, .int 0, .int 1, .int 0, .int 0, .null, .null]))] H := hP
  have hD : va_D A [(t0, .inr (8, [.int 0, .int 0, .int 1, .int 0, .int 0, .null, .null]))] := hD
  refine lv_aload_n hx hb dX8_init_9 rfl (lv_at hl 0 rfl) ?_
  refine lv_bipush (v := 6) hx hb dX8_init_10 (by decide) ?_
  refine va_newa (atype := .int) hx hb (hts (.arrayClass .int) (by decide +kernel)) (ty := .int) rfl hK hP hD hS hA (a0 := (6, .inl (fun _ => 0))) (fun cA => pz_na_int cA 6) (by decide +kernel : ¬ (6 : Int32) < 0) (by decide +kernel : (6 : Int32).toNatClampNeg = 6) (by decide +kernel) (Nat.le_of_ble_eq_true rfl) (Nat.le_of_ble_eq_true rfl) dX8_init_12 (fun q1 k2 H hK hP hD hS => ?_)
  have hP : va_P (dC, dI) vwCl [(t0, .inr (8, [.int 0, .int 0, .int 1, .int 0, .int 0, .null, .null])), (q1, .inl (k2, 6, .inl (fun _ => 0)))] H := hP
  have hD : va_D A [(t0, .inr (8, [.int 0, .int 0, .int 1, .int 0, .int 0, .null, .null])), (q1, .inl (k2, 6, .inl (fun _ => 0)))] := hD
  have hK : va_K (dC, dI) vwCl [(k2, .int)] s := hK
  refine va_putF (D := (dC, dI)) (ci := 8) (v := .ref q1) (ty := (.array .int)) (C := RX8) (T := TX8) (N := 7) hx hb hts hfX8 tyX8 tyX8_ok nmX8 hown hK hP hD hS 0 rfl rfl 5 (by decide) (hts (.fieldLink RX8 15 "ColdShips$Terminal" "wayHours" "[I") (by decide +kernel)) (fun _ h9 => h9) rfl hin rfl (by decide +kernel) rfl rfl (Nat.le_of_ble_eq_true rfl) dX8_init_14 (fun H locs hP hD hS => ?_)
  have hP : va_P (dC, dI) vwCl [(t0, .inr (8, [.int 0, .int 0, .int 1, .int 0, .int 0, .ref q1, .null])), (q1, .inl (k2, 6, .inl (fun _ => 0)))] H := hP
  have hD : va_D A [(t0, .inr (8, [.int 0, .int 0, .int 1, .int 0, .int 0, .ref q1, .null])), (q1, .inl (k2, 6, .inl (fun _ => 0)))] := hD
  refine lv_aload_n hx hb dX8_init_17 rfl (lv_at hl 0 rfl) ?_
  refine lv_bipush (v := 6) hx hb dX8_init_18 (by decide) ?_
  refine va_newa (atype := .int) hx hb (hts (.arrayClass .int) (by decide +kernel)) (ty := .int) rfl hK hP hD hS hA (a0 := (6, .inl (fun _ => 0))) (fun cA => pz_na_int cA 6) (by decide +kernel : ¬ (6 : Int32) < 0) (by decide +kernel : (6 : Int32).toNatClampNeg = 6) (by decide +kernel) (Nat.le_of_ble_eq_true rfl) (Nat.le_of_ble_eq_true rfl) dX8_init_20 (fun q3 k4 H hK hP hD hS => ?_)
  have hP : va_P (dC, dI) vwCl [(t0, .inr (8, [.int 0, .int 0, .int 1, .int 0, .int 0, .ref q1, .null])), (q1, .inl (k2, 6, .inl (fun _ => 0))), (q3, .inl (k4, 6, .inl (fun _ => 0)))] H := hP
  have hD : va_D A [(t0, .inr (8, [.int 0, .int 0, .int 1, .int 0, .int 0, .ref q1, .null])), (q1, .inl (k2, 6, .inl (fun _ => 0))), (q3, .inl (k4, 6, .inl (fun _ => 0)))] := hD
  have hK : va_K (dC, dI) vwCl [(k2, .int), (k4, .int)] s := hK
  refine va_putF (D := (dC, dI)) (ci := 8) (v := .ref q3) (ty := (.array .int)) (C := RX8) (T := TX8) (N := 7) hx hb hts hfX8 tyX8 tyX8_ok nmX8 hown hK hP hD hS 0 rfl rfl 6 (by decide) (hts (.fieldLink RX8 19 "ColdShips$Terminal" "wayHalf" "[I") (by decide +kernel)) (fun _ h9 => h9) rfl hin rfl (by decide +kernel) rfl rfl (Nat.le_of_ble_eq_true rfl) dX8_init_22 (fun H locs hP hD hS => ?_)
  have hP : va_P (dC, dI) vwCl [(t0, .inr (8, [.int 0, .int 0, .int 1, .int 0, .int 0, .ref q1, .ref q3])), (q1, .inl (k2, 6, .inl (fun _ => 0))), (q3, .inl (k4, 6, .inl (fun _ => 0)))] H := hP
  have hD : va_D A [(t0, .inr (8, [.int 0, .int 0, .int 1, .int 0, .int 0, .ref q1, .ref q3])), (q1, .inl (k2, 6, .inl (fun _ => 0))), (q3, .inl (k4, 6, .inl (fun _ => 0)))] := hD
  have hP9 := hP.sub (ws' := [(t0, .inr (8, [.int 0, .int 0, .int 1, .int 0, .int 0, .ref q1, .ref q3])), (q1, .inl (k2, 6, .inl (fun _ => 0)))]) [0, 1] rfl
  have hD9 := hD.sub (ws' := [(t0, .inr (8, [.int 0, .int 0, .int 1, .int 0, .int 0, .ref q1, .ref q3])), (q1, .inl (k2, 6, .inl (fun _ => 0)))]) [0, 1] (by decide +kernel) rfl
  have hK9 := hK.sub (tys' := [(k2, .int)]) [0] rfl
  exact W.vret hx hb hr (fun t ht hW => ⟨⟨(), rfl, trivial, ⟨q1, q3, k2, by rw [ht]; exact hP9, va_K.moved hW.alike hK9, hD9⟩⟩, hS.F ht⟩) hS.2.2 dX8_init_25
set_option maxHeartbeats 4000000 in
set_option maxRecDepth 100000 in
theorem c_X7_init (l : Launch) (dC : Nat → ClassId) (dI : Nat → Nat → Nat) (sz : Nat) (tk : Nat)  : Met l yX7_init wsX7_init ({ frames := 3, cells := 3, slots := 18, locals := 800 }) (va_Pc [.ref tk] (pz_B dC dI [] [(tk, .inr (7, [.int 0, .int 0, .int 0, .int 0, .null, .null, .null]))] sz)) (va_Qv (fun (_ : Unit) => True) (fun (_ : Unit) (_ : State) => True) (va_A [(tk, .inr (7, [.int 0, .int 0, .int 0, .int 0, .null, .null, .null]))] sz)) 3 18 (va_A [(tk, .inr (7, [.int 0, .int 0, .int 0, .int 0, .null, .null, .null]))] sz) := by
  refine Met.ofW (cc := cX7_init) (maxL := 1) (ret := none) (by decide) rfl ?_
  intro p e s m args below meth c s₁ B hml hv
  obtain ⟨rfl, hsz, hP, hK, hD0, hN⟩ := hv
  have hx := B.exec
  have hb := B.bytes
  have hr := B.returns
  have hts := atoms_spec (ws := wsX7_init) B.pre
  have hown : s.vm.findClass RX7 = some m.cls := findClass_of_methodNamed B.named
  have hlocks := B.notSynchronized
  have hin : meth.name = "<init>" := (name_of_methodNamed B.named B.method).1
  subst hsz
  have hD := hD0.self (sz := s.heap.size)
  generalize hAe : va_A [(tk, .inr (7, [.int 0, .int 0, .int 0, .int 0, .null, .null, .null]))] s.heap.size = A at hD ⊢
  have hA : ∀ q : Nat, s.heap.size ≤ q → A q := fun q h => by rw [← hAe]; exact Or.inr h
  have hS : va_S A s.heap s.heap [] := va_S.rf
  have hl := lv_entry ([.ref tk]) (n := 1) (Nat.le_of_ble_eq_true rfl)
  rw [lg_entry_eq]
  generalize (lg_sl ([.ref tk]) ++ List.replicate (1 - (lg_sl ([.ref tk])).length) Slot.unset).toArray = ls at hl ⊢
  have hl : lv_has ls 1 [(0, .ref tk)] := hl
  have hfX7 : ∀ w ∈ wsX70, w ∈ wsX7_init := fun w h => List.mem_cons_of_mem _ (List.mem_append_right _ h)
  refine lv_aload_n hx hb dX7_init_0 rfl (lv_at hl 0 rfl) ?_
  refine W.objInit hx hb hown (hts (.methodLink RX7 3 objectInit) (by decide +kernel)) (hts (.instanceMethod objectInit) (by decide +kernel)) (hts (.code objectInit ⟨#[0xb1]⟩ 1 none) (by decide +kernel)) rfl (by rw [hml]; exact hl.1) rfl dX7_init_1 (Nat.le_of_ble_eq_true rfl) (Nat.le_of_ble_eq_true rfl) ?_
  refine W.eq (g2 := F0 m 4 ls []) rfl ?_
  refine lv_aload_n hx hb dX7_init_4 rfl (lv_at hl 0 rfl) ?_
  refine lv_sipush (v := 1000) hx hb dX7_init_5 (by decide) ?_
  refine va_put (D := (dC, dI)) (ci := 7) (v := .int 1000) (ty := .int) (C := RX7) (T := TX7) (N := 7) hx hb hts hfX7 tyX7 tyX7_ok nmX7 hown hK hP hD hS 0 rfl rfl 0 (by decide) (hts (.fieldLink RX7 9 "ColdShips$Tank" "cap" "I") (by decide +kernel)) (fun _ h9 => h9) rfl (by decide +kernel) rfl rfl (Nat.le_of_ble_eq_true rfl) dX7_init_8 (fun H locs hP hD hS => ?_)
  have hP : va_P (dC, dI) vwCl [(tk, .inr (7, [.int 1000, .int 0, .int 0, .int 0, .null, .null, .null]))] H := hP
  have hD : va_D A [(tk, .inr (7, [.int 1000, .int 0, .int 0, .int 0, .null, .null, .null]))] := hD
  refine lv_aload_n hx hb dX7_init_11 rfl (lv_at hl 0 rfl) ?_
  refine lv_bipush (v := 6) hx hb dX7_init_12 (by decide) ?_
  refine va_newa (atype := .int) hx hb (hts (.arrayClass .int) (by decide +kernel)) (ty := .int) rfl hK hP hD hS hA (a0 := (6, .inl (fun _ => 0))) (fun cA => pz_na_int cA 6) (by decide +kernel : ¬ (6 : Int32) < 0) (by decide +kernel : (6 : Int32).toNatClampNeg = 6) (by decide +kernel) (Nat.le_of_ble_eq_true rfl) (Nat.le_of_ble_eq_true rfl) dX7_init_14 (fun q1 k2 H hK hP hD hS => ?_)
  have hP : va_P (dC, dI) vwCl [(tk, .inr (7, [.int 1000, .int 0, .int 0, .int 0, .null, .null, .null])), (q1, .inl (k2, 6, .inl (fun _ => 0)))] H := hP
  have hD : va_D A [(tk, .inr (7, [.int 1000, .int 0, .int 0, .int 0, .null, .null, .null])), (q1, .inl (k2, 6, .inl (fun _ => 0)))] := hD
  have hK : va_K (dC, dI) vwCl [(k2, .int)] s := hK
  refine va_putF (D := (dC, dI)) (ci := 7) (v := .ref q1) (ty := (.array .int)) (C := RX7) (T := TX7) (N := 7) hx hb hts hfX7 tyX7 tyX7_ok nmX7 hown hK hP hD hS 0 rfl rfl 4 (by decide) (hts (.fieldLink RX7 15 "ColdShips$Tank" "parts" "[I") (by decide +kernel)) (fun _ h9 => h9) rfl hin rfl (by decide +kernel) rfl rfl (Nat.le_of_ble_eq_true rfl) dX7_init_16 (fun H locs hP hD hS => ?_)
  have hP : va_P (dC, dI) vwCl [(tk, .inr (7, [.int 1000, .int 0, .int 0, .int 0, .ref q1, .null, .null])), (q1, .inl (k2, 6, .inl (fun _ => 0)))] H := hP
  have hD : va_D A [(tk, .inr (7, [.int 1000, .int 0, .int 0, .int 0, .ref q1, .null, .null])), (q1, .inl (k2, 6, .inl (fun _ => 0)))] := hD
  refine lv_aload_n hx hb dX7_init_19 rfl (lv_at hl 0 rfl) ?_
  refine lv_bipush (v := 6) hx hb dX7_init_20 (by decide) ?_
  refine va_newa (atype := .int) hx hb (hts (.arrayClass .int) (by decide +kernel)) (ty := .int) rfl hK hP hD hS hA (a0 := (6, .inl (fun _ => 0))) (fun cA => pz_na_int cA 6) (by decide +kernel : ¬ (6 : Int32) < 0) (by decide +kernel : (6 : Int32).toNatClampNeg = 6) (by decide +kernel) (Nat.le_of_ble_eq_true rfl) (Nat.le_of_ble_eq_true rfl) dX7_init_22 (fun q3 k4 H hK hP hD hS => ?_)
  have hP : va_P (dC, dI) vwCl [(tk, .inr (7, [.int 1000, .int 0, .int 0, .int 0, .ref q1, .null, .null])), (q1, .inl (k2, 6, .inl (fun _ => 0))), (q3, .inl (k4, 6, .inl (fun _ => 0)))] H := hP
  have hD : va_D A [(tk, .inr (7, [.int 1000, .int 0, .int 0, .int 0, .ref q1, .null, .null])), (q1, .inl (k2, 6, .inl (fun _ => 0))), (q3, .inl (k4, 6, .inl (fun _ => 0)))] := hD
  have hK : va_K (dC, dI) vwCl [(k2, .int), (k4, .int)] s := hK
  refine va_putF (D := (dC, dI)) (ci := 7) (v := .ref q3) (ty := (.array .int)) (C := RX7) (T := TX7) (N := 7) hx hb hts hfX7 tyX7 tyX7_ok nmX7 hown hK hP hD hS 0 rfl rfl 5 (by decide) (hts (.fieldLink RX7 19 "ColdShips$Tank" "given" "[I") (by decide +kernel)) (fun _ h9 => h9) rfl hin rfl (by decide +kernel) rfl rfl (Nat.le_of_ble_eq_true rfl) dX7_init_24 (fun H locs hP hD hS => ?_)
  have hP : va_P (dC, dI) vwCl [(tk, .inr (7, [.int 1000, .int 0, .int 0, .int 0, .ref q1, .ref q3, .null])), (q1, .inl (k2, 6, .inl (fun _ => 0))), (q3, .inl (k4, 6, .inl (fun _ => 0)))] H := hP
  have hD : va_D A [(tk, .inr (7, [.int 1000, .int 0, .int 0, .int 0, .ref q1, .ref q3, .null])), (q1, .inl (k2, 6, .inl (fun _ => 0))), (q3, .inl (k4, 6, .inl (fun _ => 0)))] := hD
  refine lv_aload_n hx hb dX7_init_27 rfl (lv_at hl 0 rfl) ?_
  refine lv_bipush (v := 6) hx hb dX7_init_28 (by decide) ?_
  refine va_newa (atype := .long) hx hb (hts (.arrayClass .long) (by decide +kernel)) (ty := .long) rfl hK hP hD hS hA (a0 := (6, .inr (.inl (fun _ => 0)))) (fun cA => pz_na_long cA 6) (by decide +kernel : ¬ (6 : Int32) < 0) (by decide +kernel : (6 : Int32).toNatClampNeg = 6) (by decide +kernel) (Nat.le_of_ble_eq_true rfl) (Nat.le_of_ble_eq_true rfl) dX7_init_30 (fun q5 k6 H hK hP hD hS => ?_)
  have hP : va_P (dC, dI) vwCl [(tk, .inr (7, [.int 1000, .int 0, .int 0, .int 0, .ref q1, .ref q3, .null])), (q1, .inl (k2, 6, .inl (fun _ => 0))), (q3, .inl (k4, 6, .inl (fun _ => 0))), (q5, .inl (k6, 6, .inr (.inl (fun _ => 0))))] H := hP
  have hD : va_D A [(tk, .inr (7, [.int 1000, .int 0, .int 0, .int 0, .ref q1, .ref q3, .null])), (q1, .inl (k2, 6, .inl (fun _ => 0))), (q3, .inl (k4, 6, .inl (fun _ => 0))), (q5, .inl (k6, 6, .inr (.inl (fun _ => 0))))] := hD
  have hK : va_K (dC, dI) vwCl [(k2, .int), (k4, .int), (k6, .long)] s := hK
  refine va_putF (D := (dC, dI)) (ci := 7) (v := .ref q5) (ty := (.array .long)) (C := RX7) (T := TX7) (N := 7) hx hb hts hfX7 tyX7 tyX7_ok nmX7 hown hK hP hD hS 0 rfl rfl 6 (by decide) (hts (.fieldLink RX7 22 "ColdShips$Tank" "rests" "[J") (by decide +kernel)) (fun _ h9 => h9) rfl hin rfl (by decide +kernel) rfl rfl (Nat.le_of_ble_eq_true rfl) dX7_init_32 (fun H locs hP hD hS => ?_)
  have hP : va_P (dC, dI) vwCl [(tk, .inr (7, [.int 1000, .int 0, .int 0, .int 0, .ref q1, .ref q3, .ref q5])), (q1, .inl (k2, 6, .inl (fun _ => 0))), (q3, .inl (k4, 6, .inl (fun _ => 0))), (q5, .inl (k6, 6, .inr (.inl (fun _ => 0))))] H := hP
  have hD : va_D A [(tk, .inr (7, [.int 1000, .int 0, .int 0, .int 0, .ref q1, .ref q3, .ref q5])), (q1, .inl (k2, 6, .inl (fun _ => 0))), (q3, .inl (k4, 6, .inl (fun _ => 0))), (q5, .inl (k6, 6, .inr (.inl (fun _ => 0))))] := hD
  exact W.vret hx hb hr (fun t ht hW => ⟨⟨(), rfl, trivial, trivial⟩, hS.F ht⟩) hS.2.2 dX7_init_35
set_option maxHeartbeats 4000000 in
set_option maxRecDepth 100000 in
theorem c_X5_init (l : Launch) (dC : Nat → ClassId) (dI : Nat → Nat → Nat) (sz : Nat) (sh : Nat)  : Met l yX5_init wsX5_init ({ frames := 4, cells := 10, slots := 83, locals := 1200 }) (va_Pc [.ref sh] (pz_B dC dI [] [(sh, .inr (5, [.null, .int 0, .int 0, .int 0, .int 0, .int 0, .int 0, .null, .null, .null, .int 0, .int 0, .int 0, .null, .int 0, .null, .null]))] sz)) (va_Qv (fun (_ : Unit) => True) (fun (_ : Unit) (t : State) => ∃ s0 : Nat, ∃ s7 : Nat, ∃ s8 : Nat, ∃ s9 : Nat, ∃ s13 : Nat, ∃ s15 : Nat, ∃ s16 : Nat, pz_E dC dI [] (va_A [(sh, .inr (5, [.null, .int 0, .int 0, .int 0, .int 0, .int 0, .int 0, .null, .null, .null, .int 0, .int 0, .int 0, .null, .int 0, .null, .null]))] sz) [(sh, .inr (5, [.ref s0, .int 0, .int 0, .int 0, .int 0, .int 0, .int 0, .ref s7, .ref s8, .ref s9, .int 0, .int 0, .int 0, .ref s13, .int 0, .ref s15, .ref s16]))] t) (va_A [(sh, .inr (5, [.null, .int 0, .int 0, .int 0, .int 0, .int 0, .int 0, .null, .null, .null, .int 0, .int 0, .int 0, .null, .int 0, .null, .null]))] sz)) 10 83 (va_A [(sh, .inr (5, [.null, .int 0, .int 0, .int 0, .int 0, .int 0, .int 0, .null, .null, .null, .int 0, .int 0, .int 0, .null, .int 0, .null, .null]))] sz) := by
  refine Met.ofW (cc := cX5_init) (maxL := 1) (ret := none) (by decide) rfl ?_
  intro p e s m args below meth c s₁ B hml hv
  obtain ⟨rfl, hsz, hP, hK, hD0, hN⟩ := hv
  have hx := B.exec
  have hb := B.bytes
  have hr := B.returns
  have hts := atoms_spec (ws := wsX5_init) B.pre
  have hown : s.vm.findClass RX5 = some m.cls := findClass_of_methodNamed B.named
  have hlocks := B.notSynchronized
  have hin : meth.name = "<init>" := (name_of_methodNamed B.named B.method).1
  subst hsz
  have hD := hD0.self (sz := s.heap.size)
  generalize hAe : va_A [(sh, .inr (5, [.null, .int 0, .int 0, .int 0, .int 0, .int 0, .int 0, .null, .null, .null, .int 0, .int 0, .int 0, .null, .int 0, .null, .null]))] s.heap.size = A at hD ⊢
  have hA : ∀ q : Nat, s.heap.size ≤ q → A q := fun q h => by rw [← hAe]; exact Or.inr h
  have hS : va_S A s.heap s.heap [] := va_S.rf
  have hl := lv_entry ([.ref sh]) (n := 1) (Nat.le_of_ble_eq_true rfl)
  rw [lg_entry_eq]
  generalize (lg_sl ([.ref sh]) ++ List.replicate (1 - (lg_sl ([.ref sh])).length) Slot.unset).toArray = ls at hl ⊢
  have hl : lv_has ls 1 [(0, .ref sh)] := hl
  have hfX7 : ∀ w ∈ wsX70, w ∈ wsX5_init := fun w h => List.mem_cons_of_mem _ (List.mem_append_left _ (List.mem_append_right _ h))
  have hfX5 : ∀ w ∈ wsX50, w ∈ wsX5_init := fun w h => List.mem_cons_of_mem _ (List.mem_append_right _ h)
  refine lv_aload_n hx hb dX5_init_0 rfl (lv_at hl 0 rfl) ?_
  refine W.objInit hx hb hown (hts (.methodLink RX5 3 objectInit) (by decide +kernel)) (hts (.instanceMethod objectInit) (by decide +kernel)) (hts (.code objectInit ⟨#[0xb1]⟩ 1 none) (by decide +kernel)) rfl (by rw [hml]; exact hl.1) rfl dX5_init_1 (Nat.le_of_ble_eq_true rfl) (Nat.le_of_ble_eq_true rfl) ?_
  refine W.eq (g2 := F0 m 4 ls []) rfl ?_
  refine lv_aload_n hx hb dX5_init_4 rfl (lv_at hl 0 rfl) ?_
  refine va_new (ci := 7) (fs := [.int 0, .int 0, .int 0, .int 0, .null, .null, .null]) (C := RX7) (T := TX7) (N := 7) hx hb hts hfX7 tyX7 tyX7_ok hown (hts (.classLink RX5 9 RX7) (by decide +kernel)) (hts (.instantiable RX7 7) (by decide +kernel)) (hts (.initialized RX7) (by decide +kernel)) hK hP hD hS hA rfl (fun j hj => by rcases (show j = 0 ∨ j = 1 ∨ j = 2 ∨ j = 3 ∨ j = 4 ∨ j = 5 ∨ j = 6 by omega) with rfl | rfl | rfl | rfl | rfl | rfl | rfl <;> rfl) (Nat.le_of_ble_eq_true rfl) (Nat.le_of_ble_eq_true rfl) dX5_init_5 (fun q1 H hP hD hS => ?_)
  have hP : va_P (dC, dI) vwCl [(sh, .inr (5, [.null, .int 0, .int 0, .int 0, .int 0, .int 0, .int 0, .null, .null, .null, .int 0, .int 0, .int 0, .null, .int 0, .null, .null])), (q1, .inr (7, [.int 0, .int 0, .int 0, .int 0, .null, .null, .null]))] H := hP
  have hD : va_D A [(sh, .inr (5, [.null, .int 0, .int 0, .int 0, .int 0, .int 0, .int 0, .null, .null, .null, .int 0, .int 0, .int 0, .null, .int 0, .null, .null])), (q1, .inr (7, [.int 0, .int 0, .int 0, .int 0, .null, .null, .null]))] := hD
  refine lv_dup hx hb dX5_init_8 rfl ?_
  have hPc := hP.sub (ws' := [(q1, .inr (7, [.int 0, .int 0, .int 0, .int 0, .null, .null, .null]))]) [1] rfl
  have hDc := hD.sub (ws' := [(q1, .inr (7, [.int 0, .int 0, .int 0, .int 0, .null, .null, .null]))]) [1] (by decide +kernel) rfl
  have hKc := hK.sub (tys' := []) [] rfl
  have hFc := va_free (wc := [(q1, .inr (7, [.int 0, .int 0, .int 0, .int 0, .null, .null, .null]))]) hD hS hA [1] rfl
  refine va_callv (va_runIN (As := []) (rest := [.ref q1, .ref sh]) ⟨hx, hb, hml, hown, hts⟩ (c_X7_init l dC dI _ q1) ⟨(va_cnB (host := "ColdShips") 0 hts ggX5_init_X7_init rfl rfl rfl (hN.1 (.methodLinkNest RX5 11 yX7_init "ColdShips") (by decide +kernel)) (hts (.initialized RX7) (by decide +kernel)) (by decide +kernel) ⟨Nat.le_of_ble_eq_true rfl, Nat.le_of_ble_eq_true rfl⟩), rfl, (hts (.instanceMethod yX7_init) (by decide +kernel))⟩ ⟨pz_blind, pz_pre hPc hKc hDc hN⟩ rfl rfl hl.1 rfl (lv_room (Nat.le_of_ble_eq_true rfl)) dX5_init_9 ⟨Nat.le_of_ble_eq_true rfl, Nat.le_of_ble_eq_true rfl⟩) hS (fun q _ h => hFc q h) hFc (fun u t H1 locs ht hvm hw hB hz1 hk1 hS => ?_)
  obtain ⟨hP, hD⟩ := va_join (wr := [(sh, .inr (5, [.null, .int 0, .int 0, .int 0, .int 0, .int 0, .int 0, .null, .null, .null, .int 0, .int 0, .int 0, .null, .int 0, .null, .null]))]) (w1 := []) hP hD [1] [0] rfl rfl (by decide +kernel) (by decide +kernel) hk1 hFc pz_P0 pz_D0
  generalize H1 = H at hP hS ⊢
  have hP : va_P (dC, dI) vwCl [(sh, .inr (5, [.null, .int 0, .int 0, .int 0, .int 0, .int 0, .int 0, .null, .null, .null, .int 0, .int 0, .int 0, .null, .int 0, .null, .null]))] H := hP
  have hD : va_D A [(sh, .inr (5, [.null, .int 0, .int 0, .int 0, .int 0, .int 0, .int 0, .null, .null, .null, .int 0, .int 0, .int 0, .null, .int 0, .null, .null]))] := hD
  have hK : va_K (dC, dI) vwCl [] s := hK
  refine va_putF (D := (dC, dI)) (ci := 5) (v := .ref q1) (ty := (.object "ColdShips$Tank")) (C := RX5) (T := TX5) (N := 17) hx hb hts hfX5 tyX5 tyX5_ok nmX5 hown hK hP hD hS 0 rfl rfl 0 (by decide) (hts (.fieldLink RX5 12 "ColdShips$Ship" "tank" "LColdShips$Tank;") (by decide +kernel)) (fun _ h9 => h9) rfl hin rfl (by decide +kernel) rfl rfl (Nat.le_of_ble_eq_true rfl) dX5_init_12 (fun H locs hP hD hS => ?_)
  have hP : va_P (dC, dI) vwCl [(sh, .inr (5, [.ref q1, .int 0, .int 0, .int 0, .int 0, .int 0, .int 0, .null, .null, .null, .int 0, .int 0, .int 0, .null, .int 0, .null, .null]))] H := hP
  have hD : va_D A [(sh, .inr (5, [.ref q1, .int 0, .int 0, .int 0, .int 0, .int 0, .int 0, .null, .null, .null, .int 0, .int 0, .int 0, .null, .int 0, .null, .null]))] := hD
  refine lv_aload_n hx hb dX5_init_15 rfl (lv_at hl 0 rfl) ?_
  refine lv_bipush (v := 20) hx hb dX5_init_16 (by decide) ?_
  refine va_newa (atype := .int) hx hb (hts (.arrayClass .int) (by decide +kernel)) (ty := .int) rfl hK hP hD hS hA (a0 := (20, .inl (fun _ => 0))) (fun cA => pz_na_int cA 20) (by decide +kernel : ¬ (20 : Int32) < 0) (by decide +kernel : (20 : Int32).toNatClampNeg = 20) (by decide +kernel) (Nat.le_of_ble_eq_true rfl) (Nat.le_of_ble_eq_true rfl) dX5_init_18 (fun q3 k4 H hK hP hD hS => ?_)
  have hP : va_P (dC, dI) vwCl [(sh, .inr (5, [.ref q1, .int 0, .int 0, .int 0, .int 0, .int 0, .int 0, .null, .null, .null, .int 0, .int 0, .int 0, .null, .int 0, .null, .null])), (q3, .inl (k4, 20, .inl (fun _ => 0)))] H := hP
  have hD : va_D A [(sh, .inr (5, [.ref q1, .int 0, .int 0, .int 0, .int 0, .int 0, .int 0, .null, .null, .null, .int 0, .int 0, .int 0, .null, .int 0, .null, .null])), (q3, .inl (k4, 20, .inl (fun _ => 0)))] := hD
  have hK : va_K (dC, dI) vwCl [(k4, .int)] s := hK
  refine va_putF (D := (dC, dI)) (ci := 5) (v := .ref q3) (ty := (.array .int)) (C := RX5) (T := TX5) (N := 17) hx hb hts hfX5 tyX5 tyX5_ok nmX5 hown hK hP hD hS 0 rfl rfl 7 (by decide) (hts (.fieldLink RX5 18 "ColdShips$Ship" "orderSorts" "[I") (by decide +kernel)) (fun _ h9 => h9) rfl hin rfl (by decide +kernel) rfl rfl (Nat.le_of_ble_eq_true rfl) dX5_init_20 (fun H locs hP hD hS => ?_)
  have hP : va_P (dC, dI) vwCl [(sh, .inr (5, [.ref q1, .int 0, .int 0, .int 0, .int 0, .int 0, .int 0, .ref q3, .null, .null, .int 0, .int 0, .int 0, .null, .int 0, .null, .null])), (q3, .inl (k4, 20, .inl (fun _ => 0)))] H := hP
  have hD : va_D A [(sh, .inr (5, [.ref q1, .int 0, .int 0, .int 0, .int 0, .int 0, .int 0, .ref q3, .null, .null, .int 0, .int 0, .int 0, .null, .int 0, .null, .null])), (q3, .inl (k4, 20, .inl (fun _ => 0)))] := hD
  refine lv_aload_n hx hb dX5_init_23 rfl (lv_at hl 0 rfl) ?_
  refine lv_bipush (v := 20) hx hb dX5_init_24 (by decide) ?_
  refine va_newa (atype := .int) hx hb (hts (.arrayClass .int) (by decide +kernel)) (ty := .int) rfl hK hP hD hS hA (a0 := (20, .inl (fun _ => 0))) (fun cA => pz_na_int cA 20) (by decide +kernel : ¬ (20 : Int32) < 0) (by decide +kernel : (20 : Int32).toNatClampNeg = 20) (by decide +kernel) (Nat.le_of_ble_eq_true rfl) (Nat.le_of_ble_eq_true rfl) dX5_init_26 (fun q5 k6 H hK hP hD hS => ?_)
  have hP : va_P (dC, dI) vwCl [(sh, .inr (5, [.ref q1, .int 0, .int 0, .int 0, .int 0, .int 0, .int 0, .ref q3, .null, .null, .int 0, .int 0, .int 0, .null, .int 0, .null, .null])), (q3, .inl (k4, 20, .inl (fun _ => 0))), (q5, .inl (k6, 20, .inl (fun _ => 0)))] H := hP
  have hD : va_D A [(sh, .inr (5, [.ref q1, .int 0, .int 0, .int 0, .int 0, .int 0, .int 0, .ref q3, .null, .null, .int 0, .int 0, .int 0, .null, .int 0, .null, .null])), (q3, .inl (k4, 20, .inl (fun _ => 0))), (q5, .inl (k6, 20, .inl (fun _ => 0)))] := hD
  have hK : va_K (dC, dI) vwCl [(k4, .int), (k6, .int)] s := hK
  refine va_putF (D := (dC, dI)) (ci := 5) (v := .ref q5) (ty := (.array .int)) (C := RX5) (T := TX5) (N := 17) hx hb hts hfX5 tyX5 tyX5_ok nmX5 hown hK hP hD hS 0 rfl rfl 8 (by decide) (hts (.fieldLink RX5 22 "ColdShips$Ship" "orderWhats" "[I") (by decide +kernel)) (fun _ h9 => h9) rfl hin rfl (by decide +kernel) rfl rfl (Nat.le_of_ble_eq_true rfl) dX5_init_28 (fun H locs hP hD hS => ?_)
  have hP : va_P (dC, dI) vwCl [(sh, .inr (5, [.ref q1, .int 0, .int 0, .int 0, .int 0, .int 0, .int 0, .ref q3, .ref q5, .null, .int 0, .int 0, .int 0, .null, .int 0, .null, .null])), (q3, .inl (k4, 20, .inl (fun _ => 0))), (q5, .inl (k6, 20, .inl (fun _ => 0)))] H := hP
  have hD : va_D A [(sh, .inr (5, [.ref q1, .int 0, .int 0, .int 0, .int 0, .int 0, .int 0, .ref q3, .ref q5, .null, .int 0, .int 0, .int 0, .null, .int 0, .null, .null])), (q3, .inl (k4, 20, .inl (fun _ => 0))), (q5, .inl (k6, 20, .inl (fun _ => 0)))] := hD
  refine lv_aload_n hx hb dX5_init_31 rfl (lv_at hl 0 rfl) ?_
  refine lv_iconst (v := 4) hx hb dX5_init_32 (by decide) ?_
  refine va_newa (atype := .long) hx hb (hts (.arrayClass .long) (by decide +kernel)) (ty := .long) rfl hK hP hD hS hA (a0 := (4, .inr (.inl (fun _ => 0)))) (fun cA => pz_na_long cA 4) (by decide +kernel : ¬ (4 : Int32) < 0) (by decide +kernel : (4 : Int32).toNatClampNeg = 4) (by decide +kernel) (Nat.le_of_ble_eq_true rfl) (Nat.le_of_ble_eq_true rfl) dX5_init_33 (fun q7 k8 H hK hP hD hS => ?_)
  have hP : va_P (dC, dI) vwCl [(sh, .inr (5, [.ref q1, .int 0, .int 0, .int 0, .int 0, .int 0, .int 0, .ref q3, .ref q5, .null, .int 0, .int 0, .int 0, .null, .int 0, .null, .null])), (q3, .inl (k4, 20, .inl (fun _ => 0))), (q5, .inl (k6, 20, .inl (fun _ => 0))), (q7, .inl (k8, 4, .inr (.inl (fun _ => 0))))] H := hP
  have hD : va_D A [(sh, .inr (5, [.ref q1, .int 0, .int 0, .int 0, .int 0, .int 0, .int 0, .ref q3, .ref q5, .null, .int 0, .int 0, .int 0, .null, .int 0, .null, .null])), (q3, .inl (k4, 20, .inl (fun _ => 0))), (q5, .inl (k6, 20, .inl (fun _ => 0))), (q7, .inl (k8, 4, .inr (.inl (fun _ => 0))))] := hD
  have hK : va_K (dC, dI) vwCl [(k4, .int), (k6, .int), (k8, .long)] s := hK
  refine va_putF (D := (dC, dI)) (ci := 5) (v := .ref q7) (ty := (.array .long)) (C := RX5) (T := TX5) (N := 17) hx hb hts hfX5 tyX5 tyX5_ok nmX5 hown hK hP hD hS 0 rfl rfl 9 (by decide) (hts (.fieldLink RX5 25 "ColdShips$Ship" "book" "[J") (by decide +kernel)) (fun _ h9 => h9) rfl hin rfl (by decide +kernel) rfl rfl (Nat.le_of_ble_eq_true rfl) dX5_init_35 (fun H locs hP hD hS => ?_)
  have hP : va_P (dC, dI) vwCl [(sh, .inr (5, [.ref q1, .int 0, .int 0, .int 0, .int 0, .int 0, .int 0, .ref q3, .ref q5, .ref q7, .int 0, .int 0, .int 0, .null, .int 0, .null, .null])), (q3, .inl (k4, 20, .inl (fun _ => 0))), (q5, .inl (k6, 20, .inl (fun _ => 0))), (q7, .inl (k8, 4, .inr (.inl (fun _ => 0))))] H := hP
  have hD : va_D A [(sh, .inr (5, [.ref q1, .int 0, .int 0, .int 0, .int 0, .int 0, .int 0, .ref q3, .ref q5, .ref q7, .int 0, .int 0, .int 0, .null, .int 0, .null, .null])), (q3, .inl (k4, 20, .inl (fun _ => 0))), (q5, .inl (k6, 20, .inl (fun _ => 0))), (q7, .inl (k8, 4, .inr (.inl (fun _ => 0))))] := hD
  refine lv_aload_n hx hb dX5_init_38 rfl (lv_at hl 0 rfl) ?_
  refine lv_bipush (v := 6) hx hb dX5_init_39 (by decide) ?_
  refine va_newa (atype := .int) hx hb (hts (.arrayClass .int) (by decide +kernel)) (ty := .int) rfl hK hP hD hS hA (a0 := (6, .inl (fun _ => 0))) (fun cA => pz_na_int cA 6) (by decide +kernel : ¬ (6 : Int32) < 0) (by decide +kernel : (6 : Int32).toNatClampNeg = 6) (by decide +kernel) (Nat.le_of_ble_eq_true rfl) (Nat.le_of_ble_eq_true rfl) dX5_init_41 (fun q9 k10 H hK hP hD hS => ?_)
  have hP : va_P (dC, dI) vwCl [(sh, .inr (5, [.ref q1, .int 0, .int 0, .int 0, .int 0, .int 0, .int 0, .ref q3, .ref q5, .ref q7, .int 0, .int 0, .int 0, .null, .int 0, .null, .null])), (q3, .inl (k4, 20, .inl (fun _ => 0))), (q5, .inl (k6, 20, .inl (fun _ => 0))), (q7, .inl (k8, 4, .inr (.inl (fun _ => 0)))), (q9, .inl (k10, 6, .inl (fun _ => 0)))] H := hP
  have hD : va_D A [(sh, .inr (5, [.ref q1, .int 0, .int 0, .int 0, .int 0, .int 0, .int 0, .ref q3, .ref q5, .ref q7, .int 0, .int 0, .int 0, .null, .int 0, .null, .null])), (q3, .inl (k4, 20, .inl (fun _ => 0))), (q5, .inl (k6, 20, .inl (fun _ => 0))), (q7, .inl (k8, 4, .inr (.inl (fun _ => 0)))), (q9, .inl (k10, 6, .inl (fun _ => 0)))] := hD
  have hK : va_K (dC, dI) vwCl [(k4, .int), (k6, .int), (k8, .long), (k10, .int)] s := hK
  refine va_putF (D := (dC, dI)) (ci := 5) (v := .ref q9) (ty := (.array .int)) (C := RX5) (T := TX5) (N := 17) hx hb hts hfX5 tyX5 tyX5_ok nmX5 hown hK hP hD hS 0 rfl rfl 13 (by decide) (hts (.fieldLink RX5 29 "ColdShips$Ship" "landParts" "[I") (by decide +kernel)) (fun _ h9 => h9) rfl hin rfl (by decide +kernel) rfl rfl (Nat.le_of_ble_eq_true rfl) dX5_init_43 (fun H locs hP hD hS => ?_)
  have hP : va_P (dC, dI) vwCl [(sh, .inr (5, [.ref q1, .int 0, .int 0, .int 0, .int 0, .int 0, .int 0, .ref q3, .ref q5, .ref q7, .int 0, .int 0, .int 0, .ref q9, .int 0, .null, .null])), (q3, .inl (k4, 20, .inl (fun _ => 0))), (q5, .inl (k6, 20, .inl (fun _ => 0))), (q7, .inl (k8, 4, .inr (.inl (fun _ => 0)))), (q9, .inl (k10, 6, .inl (fun _ => 0)))] H := hP
  have hD : va_D A [(sh, .inr (5, [.ref q1, .int 0, .int 0, .int 0, .int 0, .int 0, .int 0, .ref q3, .ref q5, .ref q7, .int 0, .int 0, .int 0, .ref q9, .int 0, .null, .null])), (q3, .inl (k4, 20, .inl (fun _ => 0))), (q5, .inl (k6, 20, .inl (fun _ => 0))), (q7, .inl (k8, 4, .inr (.inl (fun _ => 0)))), (q9, .inl (k10, 6, .inl (fun _ => 0)))] := hD
  refine lv_aload_n hx hb dX5_init_46 rfl (lv_at hl 0 rfl) ?_
  refine lv_iconst (v := 4) hx hb dX5_init_47 (by decide) ?_
  refine va_newa (atype := .int) hx hb (hts (.arrayClass .int) (by decide +kernel)) (ty := .int) rfl hK hP hD hS hA (a0 := (4, .inl (fun _ => 0))) (fun cA => pz_na_int cA 4) (by decide +kernel : ¬ (4 : Int32) < 0) (by decide +kernel : (4 : Int32).toNatClampNeg = 4) (by decide +kernel) (Nat.le_of_ble_eq_true rfl) (Nat.le_of_ble_eq_true rfl) dX5_init_48 (fun q11 k12 H hK hP hD hS => ?_)
  have hP : va_P (dC, dI) vwCl [(sh, .inr (5, [.ref q1, .int 0, .int 0, .int 0, .int 0, .int 0, .int 0, .ref q3, .ref q5, .ref q7, .int 0, .int 0, .int 0, .ref q9, .int 0, .null, .null])), (q3, .inl (k4, 20, .inl (fun _ => 0))), (q5, .inl (k6, 20, .inl (fun _ => 0))), (q7, .inl (k8, 4, .inr (.inl (fun _ => 0)))), (q9, .inl (k10, 6, .inl (fun _ => 0))), (q11, .inl (k12, 4, .inl (fun _ => 0)))] H := hP
  have hD : va_D A [(sh, .inr (5, [.ref q1, .int 0, .int 0, .int 0, .int 0, .int 0, .int 0, .ref q3, .ref q5, .ref q7, .int 0, .int 0, .int 0, .ref q9, .int 0, .null, .null])), (q3, .inl (k4, 20, .inl (fun _ => 0))), (q5, .inl (k6, 20, .inl (fun _ => 0))), (q7, .inl (k8, 4, .inr (.inl (fun _ => 0)))), (q9, .inl (k10, 6, .inl (fun _ => 0))), (q11, .inl (k12, 4, .inl (fun _ => 0)))] := hD
  have hK : va_K (dC, dI) vwCl [(k4, .int), (k6, .int), (k8, .long), (k10, .int), (k12, .int)] s := hK
  refine va_putF (D := (dC, dI)) (ci := 5) (v := .ref q11) (ty := (.array .int)) (C := RX5) (T := TX5) (N := 17) hx hb hts hfX5 tyX5 tyX5_ok nmX5 hown hK hP hD hS 0 rfl rfl 15 (by decide) (hts (.fieldLink RX5 32 "ColdShips$Ship" "gaugeCentimetres" "[I") (by decide +kernel)) (fun _ h9 => h9) rfl hin rfl (by decide +kernel) rfl rfl (Nat.le_of_ble_eq_true rfl) dX5_init_50 (fun H locs hP hD hS => ?_)
  have hP : va_P (dC, dI) vwCl [(sh, .inr (5, [.ref q1, .int 0, .int 0, .int 0, .int 0, .int 0, .int 0, .ref q3, .ref q5, .ref q7, .int 0, .int 0, .int 0, .ref q9, .int 0, .ref q11, .null])), (q3, .inl (k4, 20, .inl (fun _ => 0))), (q5, .inl (k6, 20, .inl (fun _ => 0))), (q7, .inl (k8, 4, .inr (.inl (fun _ => 0)))), (q9, .inl (k10, 6, .inl (fun _ => 0))), (q11, .inl (k12, 4, .inl (fun _ => 0)))] H := hP
  have hD : va_D A [(sh, .inr (5, [.ref q1, .int 0, .int 0, .int 0, .int 0, .int 0, .int 0, .ref q3, .ref q5, .ref q7, .int 0, .int 0, .int 0, .ref q9, .int 0, .ref q11, .null])), (q3, .inl (k4, 20, .inl (fun _ => 0))), (q5, .inl (k6, 20, .inl (fun _ => 0))), (q7, .inl (k8, 4, .inr (.inl (fun _ => 0)))), (q9, .inl (k10, 6, .inl (fun _ => 0))), (q11, .inl (k12, 4, .inl (fun _ => 0)))] := hD
  refine lv_aload_n hx hb dX5_init_53 rfl (lv_at hl 0 rfl) ?_
  refine lv_iconst (v := 4) hx hb dX5_init_54 (by decide) ?_
  refine va_newa (atype := .int) hx hb (hts (.arrayClass .int) (by decide +kernel)) (ty := .int) rfl hK hP hD hS hA (a0 := (4, .inl (fun _ => 0))) (fun cA => pz_na_int cA 4) (by decide +kernel : ¬ (4 : Int32) < 0) (by decide +kernel : (4 : Int32).toNatClampNeg = 4) (by decide +kernel) (Nat.le_of_ble_eq_true rfl) (Nat.le_of_ble_eq_true rfl) dX5_init_55 (fun q13 k14 H hK hP hD hS => ?_)
  have hP : va_P (dC, dI) vwCl [(sh, .inr (5, [.ref q1, .int 0, .int 0, .int 0, .int 0, .int 0, .int 0, .ref q3, .ref q5, .ref q7, .int 0, .int 0, .int 0, .ref q9, .int 0, .ref q11, .null])), (q3, .inl (k4, 20, .inl (fun _ => 0))), (q5, .inl (k6, 20, .inl (fun _ => 0))), (q7, .inl (k8, 4, .inr (.inl (fun _ => 0)))), (q9, .inl (k10, 6, .inl (fun _ => 0))), (q11, .inl (k12, 4, .inl (fun _ => 0))), (q13, .inl (k14, 4, .inl (fun _ => 0)))] H := hP
  have hD : va_D A [(sh, .inr (5, [.ref q1, .int 0, .int 0, .int 0, .int 0, .int 0, .int 0, .ref q3, .ref q5, .ref q7, .int 0, .int 0, .int 0, .ref q9, .int 0, .ref q11, .null])), (q3, .inl (k4, 20, .inl (fun _ => 0))), (q5, .inl (k6, 20, .inl (fun _ => 0))), (q7, .inl (k8, 4, .inr (.inl (fun _ => 0)))), (q9, .inl (k10, 6, .inl (fun _ => 0))), (q11, .inl (k12, 4, .inl (fun _ => 0))), (q13, .inl (k14, 4, .inl (fun _ => 0)))] := hD
  have hK : va_K (dC, dI) vwCl [(k4, .int), (k6, .int), (k8, .long), (k10, .int), (k12, .int), (k14, .int)] s := hK
  refine va_putF (D := (dC, dI)) (ci := 5) (v := .ref q13) (ty := (.array .int)) (C := RX5) (T := TX5) (N := 17) hx hb hts hfX5 tyX5 tyX5_ok nmX5 hown hK hP hD hS 0 rfl rfl 16 (by decide) (hts (.fieldLink RX5 35 "ColdShips$Ship" "gaugeTons" "[I") (by decide +kernel)) (fun _ h9 => h9) rfl hin rfl (by decide +kernel) rfl rfl (Nat.le_of_ble_eq_true rfl) dX5_init_57 (fun H locs hP hD hS => ?_)
  have hP : va_P (dC, dI) vwCl [(sh, .inr (5, [.ref q1, .int 0, .int 0, .int 0, .int 0, .int 0, .int 0, .ref q3, .ref q5, .ref q7, .int 0, .int 0, .int 0, .ref q9, .int 0, .ref q11, .ref q13])), (q3, .inl (k4, 20, .inl (fun _ => 0))), (q5, .inl (k6, 20, .inl (fun _ => 0))), (q7, .inl (k8, 4, .inr (.inl (fun _ => 0)))), (q9, .inl (k10, 6, .inl (fun _ => 0))), (q11, .inl (k12, 4, .inl (fun _ => 0))), (q13, .inl (k14, 4, .inl (fun _ => 0)))] H := hP
  have hD : va_D A [(sh, .inr (5, [.ref q1, .int 0, .int 0, .int 0, .int 0, .int 0, .int 0, .ref q3, .ref q5, .ref q7, .int 0, .int 0, .int 0, .ref q9, .int 0, .ref q11, .ref q13])), (q3, .inl (k4, 20, .inl (fun _ => 0))), (q5, .inl (k6, 20, .inl (fun _ => 0))), (q7, .inl (k8, 4, .inr (.inl (fun _ => 0)))), (q9, .inl (k10, 6, .inl (fun _ => 0))), (q11, .inl (k12, 4, .inl (fun _ => 0))), (q13, .inl (k14, 4, .inl (fun _ => 0)))] := hD
  have hP9 := hP.sub (ws' := [(sh, .inr (5, [.ref q1, .int 0, .int 0, .int 0, .int 0, .int 0, .int 0, .ref q3, .ref q5, .ref q7, .int 0, .int 0, .int 0, .ref q9, .int 0, .ref q11, .ref q13]))]) [0] rfl
  have hD9 := hD.sub (ws' := [(sh, .inr (5, [.ref q1, .int 0, .int 0, .int 0, .int 0, .int 0, .int 0, .ref q3, .ref q5, .ref q7, .int 0, .int 0, .int 0, .ref q9, .int 0, .ref q11, .ref q13]))]) [0] (by decide +kernel) rfl
  have hK9 := hK.sub (tys' := []) [] rfl
  exact W.vret hx hb hr (fun t ht hW => ⟨⟨(), rfl, trivial, ⟨q1, q3, q5, q7, q9, q11, q13, by rw [ht]; exact hP9, va_K.moved hW.alike hK9, hD9⟩⟩, hS.F ht⟩) hS.2.2 dX5_init_60
set_option maxHeartbeats 4000000 in
set_option maxRecDepth 100000 in
theorem c_X6_init_60 (l : Launch) (dC : Nat → ClassId) (dI : Nat → Nat → Nat) (sz : Nat) (sp : Nat)  : Met l yX6_init wsX6_init ({ frames := 3, cells := 3, slots := 180, locals := 800 }) (va_Pc [.ref sp, .int 60] (pz_B dC dI [] [(sp, .inr (6, [.null, .null, .null, .int 0]))] sz)) (va_Qv (fun (_ : Unit) => True) (fun (_ : Unit) (t : State) => ∃ spo : Nat, ∃ spb : Nat, ∃ spe : Nat, ∃ kspo : ClassId, ∃ kspb : ClassId, ∃ kspe : ClassId, pz_E dC dI [(kspo, .int), (kspb, .int), (kspe, .int)] (va_A [(sp, .inr (6, [.null, .null, .null, .int 0]))] sz) [(sp, .inr (6, [.ref spo, .ref spb, .ref spe, .int 0])), (spo, .inl (kspo, 60, .inl (fun _ => 0))), (spb, .inl (kspb, 60, .inl (fun _ => 0))), (spe, .inl (kspe, 60, .inl (fun _ => 0)))] t) (va_A [(sp, .inr (6, [.null, .null, .null, .int 0]))] sz)) 3 180 (va_A [(sp, .inr (6, [.null, .null, .null, .int 0]))] sz) := by
  refine Met.ofW (cc := cX6_init) (maxL := 3) (ret := none) (by decide) rfl ?_
  intro p e s m args below meth c s₁ B hml hv
  obtain ⟨rfl, hsz, hP, hK, hD0, hN⟩ := hv
  have hx := B.exec
  have hb := B.bytes
  have hr := B.returns
  have hts := atoms_spec (ws := wsX6_init) B.pre
  have hown : s.vm.findClass RX6 = some m.cls := findClass_of_methodNamed B.named
  have hlocks := B.notSynchronized
  have hin : meth.name = "<init>" := (name_of_methodNamed B.named B.method).1
  subst hsz
  have hD := hD0.self (sz := s.heap.size)
  generalize hAe : va_A [(sp, .inr (6, [.null, .null, .null, .int 0]))] s.heap.size = A at hD ⊢
  have hA : ∀ q : Nat, s.heap.size ≤ q → A q := fun q h => by rw [← hAe]; exact Or.inr h
  have hS : va_S A s.heap s.heap [] := va_S.rf
  have hl := lv_entry ([.ref sp, .int 60]) (n := 3) (Nat.le_of_ble_eq_true rfl)
  rw [lg_entry_eq]
  generalize (lg_sl ([.ref sp, .int 60]) ++ List.replicate (3 - (lg_sl ([.ref sp, .int 60])).length) Slot.unset).toArray = ls at hl ⊢
  have hl : lv_has ls 3 [(0, .ref sp), (1, .int 60)] := hl
  have hfX6 : ∀ w ∈ wsX60, w ∈ wsX6_init := fun w h => List.mem_cons_of_mem _ (List.mem_append_right _ h)
  refine lv_aload_n hx hb dX6_init_0 rfl (lv_at hl 0 rfl) ?_
  refine W.objInit hx hb hown (hts (.methodLink RX6 3 objectInit) (by decide +kernel)) (hts (.instanceMethod objectInit) (by decide +kernel)) (hts (.code objectInit ⟨#[0xb1]⟩ 1 none) (by decide +kernel)) rfl (by rw [hml]; exact hl.1) rfl dX6_init_1 (Nat.le_of_ble_eq_true rfl) (Nat.le_of_ble_eq_true rfl) ?_
  refine W.eq (g2 := F0 m 4 ls []) rfl ?_
  refine lv_iconst (v := 0) hx hb dX6_init_4 (by decide) ?_
  refine lv_iload_n hx hb dX6_init_5 rfl (lv_at hl 1 rfl) ?_
  refine va_mmax hx hb (by rw [hml]; exact hl.1.symm) hown (hts (.methodLink RX6 9 Lib.Math.max.name) (by decide +kernel)) (hts (.static Lib.Math.max.name) (by decide +kernel)) (hts (.initialized "java/lang/Math") (by decide +kernel)) (hts (.code Lib.Math.max.name Lib.Math.max.code 2 (some .int)) (by decide +kernel)) (Nat.le_of_ble_eq_true rfl) (Nat.le_of_ble_eq_true rfl) (Nat.le_of_ble_eq_true rfl) (Nat.le_of_ble_eq_true rfl) dX6_init_6 ?_
  refine lv_topi (fun z1 ez1 => ?_)
  obtain rfl : z1 = 60 := ez1.trans (by first | rfl | decide)
  refine lv_istore_n (lv' := [(2, .int 60), (0, .ref sp), (1, .int 60)]) hx hb dX6_init_9 rfl hl (by decide) rfl (fun ls hl => ?_)
  refine lv_aload_n hx hb dX6_init_10 rfl (lv_at hl 1 rfl) ?_
  refine lv_iload_n hx hb dX6_init_11 rfl (lv_at hl 0 rfl) ?_
  refine va_newa (atype := .int) hx hb (hts (.arrayClass .int) (by decide +kernel)) (ty := .int) rfl hK hP hD hS hA (a0 := (60, .inl (fun _ => 0))) (fun cA => pz_na_int cA 60) (by decide +kernel : ¬ (60 : Int32) < 0) (by decide +kernel : (60 : Int32).toNatClampNeg = 60) (by decide +kernel) (Nat.le_of_ble_eq_true rfl) (Nat.le_of_ble_eq_true rfl) dX6_init_12 (fun q2 k3 H hK hP hD hS => ?_)
  have hP : va_P (dC, dI) vwCl [(sp, .inr (6, [.null, .null, .null, .int 0])), (q2, .inl (k3, 60, .inl (fun _ => 0)))] H := hP
  have hD : va_D A [(sp, .inr (6, [.null, .null, .null, .int 0])), (q2, .inl (k3, 60, .inl (fun _ => 0)))] := hD
  have hK : va_K (dC, dI) vwCl [(k3, .int)] s := hK
  refine va_putF (D := (dC, dI)) (ci := 6) (v := .ref q2) (ty := (.array .int)) (C := RX6) (T := TX6) (N := 4) hx hb hts hfX6 tyX6 tyX6_ok nmX6 hown hK hP hD hS 0 rfl rfl 0 (by decide) (hts (.fieldLink RX6 15 "ColdShips$Spans" "owners" "[I") (by decide +kernel)) (fun _ h9 => h9) rfl hin rfl (by decide +kernel) rfl rfl (Nat.le_of_ble_eq_true rfl) dX6_init_14 (fun H locs hP hD hS => ?_)
  have hP : va_P (dC, dI) vwCl [(sp, .inr (6, [.ref q2, .null, .null, .int 0])), (q2, .inl (k3, 60, .inl (fun _ => 0)))] H := hP
  have hD : va_D A [(sp, .inr (6, [.ref q2, .null, .null, .int 0])), (q2, .inl (k3, 60, .inl (fun _ => 0)))] := hD
  refine lv_aload_n hx hb dX6_init_17 rfl (lv_at hl 1 rfl) ?_
  refine lv_iload_n hx hb dX6_init_18 rfl (lv_at hl 0 rfl) ?_
  refine va_newa (atype := .int) hx hb (hts (.arrayClass .int) (by decide +kernel)) (ty := .int) rfl hK hP hD hS hA (a0 := (60, .inl (fun _ => 0))) (fun cA => pz_na_int cA 60) (by decide +kernel : ¬ (60 : Int32) < 0) (by decide +kernel : (60 : Int32).toNatClampNeg = 60) (by decide +kernel) (Nat.le_of_ble_eq_true rfl) (Nat.le_of_ble_eq_true rfl) dX6_init_19 (fun q4 k5 H hK hP hD hS => ?_)
  have hP : va_P (dC, dI) vwCl [(sp, .inr (6, [.ref q2, .null, .null, .int 0])), (q2, .inl (k3, 60, .inl (fun _ => 0))), (q4, .inl (k5, 60, .inl (fun _ => 0)))] H := hP
  have hD : va_D A [(sp, .inr (6, [.ref q2, .null, .null, .int 0])), (q2, .inl (k3, 60, .inl (fun _ => 0))), (q4, .inl (k5, 60, .inl (fun _ => 0)))] := hD
  have hK : va_K (dC, dI) vwCl [(k3, .int), (k5, .int)] s := hK
  refine va_putF (D := (dC, dI)) (ci := 6) (v := .ref q4) (ty := (.array .int)) (C := RX6) (T := TX6) (N := 4) hx hb hts hfX6 tyX6 tyX6_ok nmX6 hown hK hP hD hS 0 rfl rfl 1 (by decide) (hts (.fieldLink RX6 21 "ColdShips$Spans" "begins" "[I") (by decide +kernel)) (fun _ h9 => h9) rfl hin rfl (by decide +kernel) rfl rfl (Nat.le_of_ble_eq_true rfl) dX6_init_21 (fun H locs hP hD hS => ?_)
  have hP : va_P (dC, dI) vwCl [(sp, .inr (6, [.ref q2, .ref q4, .null, .int 0])), (q2, .inl (k3, 60, .inl (fun _ => 0))), (q4, .inl (k5, 60, .inl (fun _ => 0)))] H := hP
  have hD : va_D A [(sp, .inr (6, [.ref q2, .ref q4, .null, .int 0])), (q2, .inl (k3, 60, .inl (fun _ => 0))), (q4, .inl (k5, 60, .inl (fun _ => 0)))] := hD
  refine lv_aload_n hx hb dX6_init_24 rfl (lv_at hl 1 rfl) ?_
  refine lv_iload_n hx hb dX6_init_25 rfl (lv_at hl 0 rfl) ?_
  refine va_newa (atype := .int) hx hb (hts (.arrayClass .int) (by decide +kernel)) (ty := .int) rfl hK hP hD hS hA (a0 := (60, .inl (fun _ => 0))) (fun cA => pz_na_int cA 60) (by decide +kernel : ¬ (60 : Int32) < 0) (by decide +kernel : (60 : Int32).toNatClampNeg = 60) (by decide +kernel) (Nat.le_of_ble_eq_true rfl) (Nat.le_of_ble_eq_true rfl) dX6_init_26 (fun q6 k7 H hK hP hD hS => ?_)
  have hP : va_P (dC, dI) vwCl [(sp, .inr (6, [.ref q2, .ref q4, .null, .int 0])), (q2, .inl (k3, 60, .inl (fun _ => 0))), (q4, .inl (k5, 60, .inl (fun _ => 0))), (q6, .inl (k7, 60, .inl (fun _ => 0)))] H := hP
  have hD : va_D A [(sp, .inr (6, [.ref q2, .ref q4, .null, .int 0])), (q2, .inl (k3, 60, .inl (fun _ => 0))), (q4, .inl (k5, 60, .inl (fun _ => 0))), (q6, .inl (k7, 60, .inl (fun _ => 0)))] := hD
  have hK : va_K (dC, dI) vwCl [(k3, .int), (k5, .int), (k7, .int)] s := hK
  refine va_putF (D := (dC, dI)) (ci := 6) (v := .ref q6) (ty := (.array .int)) (C := RX6) (T := TX6) (N := 4) hx hb hts hfX6 tyX6 tyX6_ok nmX6 hown hK hP hD hS 0 rfl rfl 2 (by decide) (hts (.fieldLink RX6 24 "ColdShips$Spans" "ends" "[I") (by decide +kernel)) (fun _ h9 => h9) rfl hin rfl (by decide +kernel) rfl rfl (Nat.le_of_ble_eq_true rfl) dX6_init_28 (fun H locs hP hD hS => ?_)
  have hP : va_P (dC, dI) vwCl [(sp, .inr (6, [.ref q2, .ref q4, .ref q6, .int 0])), (q2, .inl (k3, 60, .inl (fun _ => 0))), (q4, .inl (k5, 60, .inl (fun _ => 0))), (q6, .inl (k7, 60, .inl (fun _ => 0)))] H := hP
  have hD : va_D A [(sp, .inr (6, [.ref q2, .ref q4, .ref q6, .int 0])), (q2, .inl (k3, 60, .inl (fun _ => 0))), (q4, .inl (k5, 60, .inl (fun _ => 0))), (q6, .inl (k7, 60, .inl (fun _ => 0)))] := hD
  have hP9 := hP.sub (ws' := [(sp, .inr (6, [.ref q2, .ref q4, .ref q6, .int 0])), (q2, .inl (k3, 60, .inl (fun _ => 0))), (q4, .inl (k5, 60, .inl (fun _ => 0))), (q6, .inl (k7, 60, .inl (fun _ => 0)))]) [0, 1, 2, 3] rfl
  have hD9 := hD.sub (ws' := [(sp, .inr (6, [.ref q2, .ref q4, .ref q6, .int 0])), (q2, .inl (k3, 60, .inl (fun _ => 0))), (q4, .inl (k5, 60, .inl (fun _ => 0))), (q6, .inl (k7, 60, .inl (fun _ => 0)))]) [0, 1, 2, 3] (by decide +kernel) rfl
  have hK9 := hK.sub (tys' := [(k3, .int), (k5, .int), (k7, .int)]) [0, 1, 2] rfl
  exact W.vret hx hb hr (fun t ht hW => ⟨⟨(), rfl, trivial, ⟨q2, q4, q6, k3, k5, k7, by rw [ht]; exact hP9, va_K.moved hW.alike hK9, hD9⟩⟩, hS.F ht⟩) hS.2.2 dX6_init_31
set_option maxHeartbeats 4000000 in
set_option maxRecDepth 100000 in
theorem c_X6_init_20 (l : Launch) (dC : Nat → ClassId) (dI : Nat → Nat → Nat) (sz : Nat) (sp : Nat)  : Met l yX6_init wsX6_init ({ frames := 3, cells := 3, slots := 60, locals := 800 }) (va_Pc [.ref sp, .int 20] (pz_B dC dI [] [(sp, .inr (6, [.null, .null, .null, .int 0]))] sz)) (va_Qv (fun (_ : Unit) => True) (fun (_ : Unit) (t : State) => ∃ spo : Nat, ∃ spb : Nat, ∃ spe : Nat, ∃ kspo : ClassId, ∃ kspb : ClassId, ∃ kspe : ClassId, pz_E dC dI [(kspo, .int), (kspb, .int), (kspe, .int)] (va_A [(sp, .inr (6, [.null, .null, .null, .int 0]))] sz) [(sp, .inr (6, [.ref spo, .ref spb, .ref spe, .int 0])), (spo, .inl (kspo, 20, .inl (fun _ => 0))), (spb, .inl (kspb, 20, .inl (fun _ => 0))), (spe, .inl (kspe, 20, .inl (fun _ => 0)))] t) (va_A [(sp, .inr (6, [.null, .null, .null, .int 0]))] sz)) 3 60 (va_A [(sp, .inr (6, [.null, .null, .null, .int 0]))] sz) := by
  refine Met.ofW (cc := cX6_init) (maxL := 3) (ret := none) (by decide) rfl ?_
  intro p e s m args below meth c s₁ B hml hv
  obtain ⟨rfl, hsz, hP, hK, hD0, hN⟩ := hv
  have hx := B.exec
  have hb := B.bytes
  have hr := B.returns
  have hts := atoms_spec (ws := wsX6_init) B.pre
  have hown : s.vm.findClass RX6 = some m.cls := findClass_of_methodNamed B.named
  have hlocks := B.notSynchronized
  have hin : meth.name = "<init>" := (name_of_methodNamed B.named B.method).1
  subst hsz
  have hD := hD0.self (sz := s.heap.size)
  generalize hAe : va_A [(sp, .inr (6, [.null, .null, .null, .int 0]))] s.heap.size = A at hD ⊢
  have hA : ∀ q : Nat, s.heap.size ≤ q → A q := fun q h => by rw [← hAe]; exact Or.inr h
  have hS : va_S A s.heap s.heap [] := va_S.rf
  have hl := lv_entry ([.ref sp, .int 20]) (n := 3) (Nat.le_of_ble_eq_true rfl)
  rw [lg_entry_eq]
  generalize (lg_sl ([.ref sp, .int 20]) ++ List.replicate (3 - (lg_sl ([.ref sp, .int 20])).length) Slot.unset).toArray = ls at hl ⊢
  have hl : lv_has ls 3 [(0, .ref sp), (1, .int 20)] := hl
  have hfX6 : ∀ w ∈ wsX60, w ∈ wsX6_init := fun w h => List.mem_cons_of_mem _ (List.mem_append_right _ h)
  refine lv_aload_n hx hb dX6_init_0 rfl (lv_at hl 0 rfl) ?_
  refine W.objInit hx hb hown (hts (.methodLink RX6 3 objectInit) (by decide +kernel)) (hts (.instanceMethod objectInit) (by decide +kernel)) (hts (.code objectInit ⟨#[0xb1]⟩ 1 none) (by decide +kernel)) rfl (by rw [hml]; exact hl.1) rfl dX6_init_1 (Nat.le_of_ble_eq_true rfl) (Nat.le_of_ble_eq_true rfl) ?_
  refine W.eq (g2 := F0 m 4 ls []) rfl ?_
  refine lv_iconst (v := 0) hx hb dX6_init_4 (by decide) ?_
  refine lv_iload_n hx hb dX6_init_5 rfl (lv_at hl 1 rfl) ?_
  refine va_mmax hx hb (by rw [hml]; exact hl.1.symm) hown (hts (.methodLink RX6 9 Lib.Math.max.name) (by decide +kernel)) (hts (.static Lib.Math.max.name) (by decide +kernel)) (hts (.initialized "java/lang/Math") (by decide +kernel)) (hts (.code Lib.Math.max.name Lib.Math.max.code 2 (some .int)) (by decide +kernel)) (Nat.le_of_ble_eq_true rfl) (Nat.le_of_ble_eq_true rfl) (Nat.le_of_ble_eq_true rfl) (Nat.le_of_ble_eq_true rfl) dX6_init_6 ?_
  refine lv_topi (fun z1 ez1 => ?_)
  obtain rfl : z1 = 20 := ez1.trans (by first | rfl | decide)
  refine lv_istore_n (lv' := [(2, .int 20), (0, .ref sp), (1, .int 20)]) hx hb dX6_init_9 rfl hl (by decide) rfl (fun ls hl => ?_)
  refine lv_aload_n hx hb dX6_init_10 rfl (lv_at hl 1 rfl) ?_
  refine lv_iload_n hx hb dX6_init_11 rfl (lv_at hl 0 rfl) ?_
  refine va_newa (atype := .int) hx hb (hts (.arrayClass .int) (by decide +kernel)) (ty := .int) rfl hK hP hD hS hA (a0 := (20, .inl (fun _ => 0))) (fun cA => pz_na_int cA 20) (by decide +kernel : ¬ (20 : Int32) < 0) (by decide +kernel : (20 : Int32).toNatClampNeg = 20) (by decide +kernel) (Nat.le_of_ble_eq_true rfl) (Nat.le_of_ble_eq_true rfl) dX6_init_12 (fun q2 k3 H hK hP hD hS => ?_)
  have hP : va_P (dC, dI) vwCl [(sp, .inr (6, [.null, .null, .null, .int 0])), (q2, .inl (k3, 20, .inl (fun _ => 0)))] H := hP
  have hD : va_D A [(sp, .inr (6, [.null, .null, .null, .int 0])), (q2, .inl (k3, 20, .inl (fun _ => 0)))] := hD
  have hK : va_K (dC, dI) vwCl [(k3, .int)] s := hK
  refine va_putF (D := (dC, dI)) (ci := 6) (v := .ref q2) (ty := (.array .int)) (C := RX6) (T := TX6) (N := 4) hx hb hts hfX6 tyX6 tyX6_ok nmX6 hown hK hP hD hS 0 rfl rfl 0 (by decide) (hts (.fieldLink RX6 15 "ColdShips$Spans" "owners" "[I") (by decide +kernel)) (fun _ h9 => h9) rfl hin rfl (by decide +kernel) rfl rfl (Nat.le_of_ble_eq_true rfl) dX6_init_14 (fun H locs hP hD hS => ?_)
  have hP : va_P (dC, dI) vwCl [(sp, .inr (6, [.ref q2, .null, .null, .int 0])), (q2, .inl (k3, 20, .inl (fun _ => 0)))] H := hP
  have hD : va_D A [(sp, .inr (6, [.ref q2, .null, .null, .int 0])), (q2, .inl (k3, 20, .inl (fun _ => 0)))] := hD
  refine lv_aload_n hx hb dX6_init_17 rfl (lv_at hl 1 rfl) ?_
  refine lv_iload_n hx hb dX6_init_18 rfl (lv_at hl 0 rfl) ?_
  refine va_newa (atype := .int) hx hb (hts (.arrayClass .int) (by decide +kernel)) (ty := .int) rfl hK hP hD hS hA (a0 := (20, .inl (fun _ => 0))) (fun cA => pz_na_int cA 20) (by decide +kernel : ¬ (20 : Int32) < 0) (by decide +kernel : (20 : Int32).toNatClampNeg = 20) (by decide +kernel) (Nat.le_of_ble_eq_true rfl) (Nat.le_of_ble_eq_true rfl) dX6_init_19 (fun q4 k5 H hK hP hD hS => ?_)
  have hP : va_P (dC, dI) vwCl [(sp, .inr (6, [.ref q2, .null, .null, .int 0])), (q2, .inl (k3, 20, .inl (fun _ => 0))), (q4, .inl (k5, 20, .inl (fun _ => 0)))] H := hP
  have hD : va_D A [(sp, .inr (6, [.ref q2, .null, .null, .int 0])), (q2, .inl (k3, 20, .inl (fun _ => 0))), (q4, .inl (k5, 20, .inl (fun _ => 0)))] := hD
  have hK : va_K (dC, dI) vwCl [(k3, .int), (k5, .int)] s := hK
  refine va_putF (D := (dC, dI)) (ci := 6) (v := .ref q4) (ty := (.array .int)) (C := RX6) (T := TX6) (N := 4) hx hb hts hfX6 tyX6 tyX6_ok nmX6 hown hK hP hD hS 0 rfl rfl 1 (by decide) (hts (.fieldLink RX6 21 "ColdShips$Spans" "begins" "[I") (by decide +kernel)) (fun _ h9 => h9) rfl hin rfl (by decide +kernel) rfl rfl (Nat.le_of_ble_eq_true rfl) dX6_init_21 (fun H locs hP hD hS => ?_)
  have hP : va_P (dC, dI) vwCl [(sp, .inr (6, [.ref q2, .ref q4, .null, .int 0])), (q2, .inl (k3, 20, .inl (fun _ => 0))), (q4, .inl (k5, 20, .inl (fun _ => 0)))] H := hP
  have hD : va_D A [(sp, .inr (6, [.ref q2, .ref q4, .null, .int 0])), (q2, .inl (k3, 20, .inl (fun _ => 0))), (q4, .inl (k5, 20, .inl (fun _ => 0)))] := hD
  refine lv_aload_n hx hb dX6_init_24 rfl (lv_at hl 1 rfl) ?_
  refine lv_iload_n hx hb dX6_init_25 rfl (lv_at hl 0 rfl) ?_
  refine va_newa (atype := .int) hx hb (hts (.arrayClass .int) (by decide +kernel)) (ty := .int) rfl hK hP hD hS hA (a0 := (20, .inl (fun _ => 0))) (fun cA => pz_na_int cA 20) (by decide +kernel : ¬ (20 : Int32) < 0) (by decide +kernel : (20 : Int32).toNatClampNeg = 20) (by decide +kernel) (Nat.le_of_ble_eq_true rfl) (Nat.le_of_ble_eq_true rfl) dX6_init_26 (fun q6 k7 H hK hP hD hS => ?_)
  have hP : va_P (dC, dI) vwCl [(sp, .inr (6, [.ref q2, .ref q4, .null, .int 0])), (q2, .inl (k3, 20, .inl (fun _ => 0))), (q4, .inl (k5, 20, .inl (fun _ => 0))), (q6, .inl (k7, 20, .inl (fun _ => 0)))] H := hP
  have hD : va_D A [(sp, .inr (6, [.ref q2, .ref q4, .null, .int 0])), (q2, .inl (k3, 20, .inl (fun _ => 0))), (q4, .inl (k5, 20, .inl (fun _ => 0))), (q6, .inl (k7, 20, .inl (fun _ => 0)))] := hD
  have hK : va_K (dC, dI) vwCl [(k3, .int), (k5, .int), (k7, .int)] s := hK
  refine va_putF (D := (dC, dI)) (ci := 6) (v := .ref q6) (ty := (.array .int)) (C := RX6) (T := TX6) (N := 4) hx hb hts hfX6 tyX6 tyX6_ok nmX6 hown hK hP hD hS 0 rfl rfl 2 (by decide) (hts (.fieldLink RX6 24 "ColdShips$Spans" "ends" "[I") (by decide +kernel)) (fun _ h9 => h9) rfl hin rfl (by decide +kernel) rfl rfl (Nat.le_of_ble_eq_true rfl) dX6_init_28 (fun H locs hP hD hS => ?_)
  have hP : va_P (dC, dI) vwCl [(sp, .inr (6, [.ref q2, .ref q4, .ref q6, .int 0])), (q2, .inl (k3, 20, .inl (fun _ => 0))), (q4, .inl (k5, 20, .inl (fun _ => 0))), (q6, .inl (k7, 20, .inl (fun _ => 0)))] H := hP
  have hD : va_D A [(sp, .inr (6, [.ref q2, .ref q4, .ref q6, .int 0])), (q2, .inl (k3, 20, .inl (fun _ => 0))), (q4, .inl (k5, 20, .inl (fun _ => 0))), (q6, .inl (k7, 20, .inl (fun _ => 0)))] := hD
  have hP9 := hP.sub (ws' := [(sp, .inr (6, [.ref q2, .ref q4, .ref q6, .int 0])), (q2, .inl (k3, 20, .inl (fun _ => 0))), (q4, .inl (k5, 20, .inl (fun _ => 0))), (q6, .inl (k7, 20, .inl (fun _ => 0)))]) [0, 1, 2, 3] rfl
  have hD9 := hD.sub (ws' := [(sp, .inr (6, [.ref q2, .ref q4, .ref q6, .int 0])), (q2, .inl (k3, 20, .inl (fun _ => 0))), (q4, .inl (k5, 20, .inl (fun _ => 0))), (q6, .inl (k7, 20, .inl (fun _ => 0)))]) [0, 1, 2, 3] (by decide +kernel) rfl
  have hK9 := hK.sub (tys' := [(k3, .int), (k5, .int), (k7, .int)]) [0, 1, 2] rfl
  exact W.vret hx hb hr (fun t ht hW => ⟨⟨(), rfl, trivial, ⟨q2, q4, q6, k3, k5, k7, by rw [ht]; exact hP9, va_K.moved hW.alike hK9, hD9⟩⟩, hS.F ht⟩) hS.2.2 dX6_init_31
set_option maxHeartbeats 4000000 in
set_option maxRecDepth 100000 in
theorem c_X4_init_60_3 (l : Launch) (dC : Nat → ClassId) (dI : Nat → Nat → Nat) (sz : Nat) (rr : Nat)  : Met l yX4_init wsX4_init ({ frames := 3, cells := 1, slots := 180, locals := 800 }) (va_Pc [.ref rr, .int 60, .int 3] (pz_B dC dI [] [(rr, .inr (4, [.int 0, .null, .int 0]))] sz)) (va_Qv (fun (_ : Unit) => True) (fun (_ : Unit) (t : State) => ∃ rrc : Nat, ∃ krr : ClassId, pz_E dC dI [(krr, .long)] (va_A [(rr, .inr (4, [.int 0, .null, .int 0]))] sz) [(rr, .inr (4, [.int 3, .ref rrc, .int 0])), (rrc, .inl (krr, 180, .inr (.inl (fun _ => 0))))] t) (va_A [(rr, .inr (4, [.int 0, .null, .int 0]))] sz)) 1 180 (va_A [(rr, .inr (4, [.int 0, .null, .int 0]))] sz) := by
  refine Met.ofW (cc := cX4_init) (maxL := 3) (ret := none) (by decide) rfl ?_
  intro p e s m args below meth c s₁ B hml hv
  obtain ⟨rfl, hsz, hP, hK, hD0, hN⟩ := hv
  have hx := B.exec
  have hb := B.bytes
  have hr := B.returns
  have hts := atoms_spec (ws := wsX4_init) B.pre
  have hown : s.vm.findClass RX4 = some m.cls := findClass_of_methodNamed B.named
  have hlocks := B.notSynchronized
  have hin : meth.name = "<init>" := (name_of_methodNamed B.named B.method).1
  subst hsz
  have hD := hD0.self (sz := s.heap.size)
  generalize hAe : va_A [(rr, .inr (4, [.int 0, .null, .int 0]))] s.heap.size = A at hD ⊢
  have hA : ∀ q : Nat, s.heap.size ≤ q → A q := fun q h => by rw [← hAe]; exact Or.inr h
  have hS : va_S A s.heap s.heap [] := va_S.rf
  have hl := lv_entry ([.ref rr, .int 60, .int 3]) (n := 3) (Nat.le_of_ble_eq_true rfl)
  rw [lg_entry_eq]
  generalize (lg_sl ([.ref rr, .int 60, .int 3]) ++ List.replicate (3 - (lg_sl ([.ref rr, .int 60, .int 3])).length) Slot.unset).toArray = ls at hl ⊢
  have hl : lv_has ls 3 [(0, .ref rr), (1, .int 60), (2, .int 3)] := hl
  have hfX4 : ∀ w ∈ wsX40, w ∈ wsX4_init := fun w h => List.mem_cons_of_mem _ (List.mem_append_right _ h)
  refine lv_aload_n hx hb dX4_init_0 rfl (lv_at hl 0 rfl) ?_
  refine W.objInit hx hb hown (hts (.methodLink RX4 3 objectInit) (by decide +kernel)) (hts (.instanceMethod objectInit) (by decide +kernel)) (hts (.code objectInit ⟨#[0xb1]⟩ 1 none) (by decide +kernel)) rfl (by rw [hml]; exact hl.1) rfl dX4_init_1 (Nat.le_of_ble_eq_true rfl) (Nat.le_of_ble_eq_true rfl) ?_
  refine W.eq (g2 := F0 m 4 ls []) rfl ?_
  refine lv_aload_n hx hb dX4_init_4 rfl (lv_at hl 0 rfl) ?_
  refine lv_iconst (v := 1) hx hb dX4_init_5 (by decide) ?_
  refine lv_iload_n hx hb dX4_init_6 rfl (lv_at hl 2 rfl) ?_
  refine va_mmax hx hb (by rw [hml]; exact hl.1.symm) hown (hts (.methodLink RX4 9 Lib.Math.max.name) (by decide +kernel)) (hts (.static Lib.Math.max.name) (by decide +kernel)) (hts (.initialized "java/lang/Math") (by decide +kernel)) (hts (.code Lib.Math.max.name Lib.Math.max.code 2 (some .int)) (by decide +kernel)) (Nat.le_of_ble_eq_true rfl) (Nat.le_of_ble_eq_true rfl) (Nat.le_of_ble_eq_true rfl) (Nat.le_of_ble_eq_true rfl) dX4_init_7 ?_
  refine lv_topi (fun z1 ez1 => ?_)
  obtain rfl : z1 = 3 := ez1.trans (by first | rfl | decide)
  refine va_putF (D := (dC, dI)) (ci := 4) (v := .int 3) (ty := .int) (C := RX4) (T := TX4) (N := 3) hx hb hts hfX4 tyX4 tyX4_ok nmX4 hown hK hP hD hS 0 rfl rfl 0 (by decide) (hts (.fieldLink RX4 15 "ColdShips$Rows" "width" "I") (by decide +kernel)) (fun _ h9 => h9) rfl hin rfl (by decide +kernel) rfl rfl (Nat.le_of_ble_eq_true rfl) dX4_init_10 (fun H locs hP hD hS => ?_)
  have hP : va_P (dC, dI) vwCl [(rr, .inr (4, [.int 3, .null, .int 0]))] H := hP
  have hD : va_D A [(rr, .inr (4, [.int 3, .null, .int 0]))] := hD
  refine lv_aload_n hx hb dX4_init_13 rfl (lv_at hl 0 rfl) ?_
  refine lv_iconst (v := 0) hx hb dX4_init_14 (by decide) ?_
  refine lv_iload_n hx hb dX4_init_15 rfl (lv_at hl 1 rfl) ?_
  refine va_mmax hx hb (by rw [hml]; exact hl.1.symm) hown (hts (.methodLink RX4 9 Lib.Math.max.name) (by decide +kernel)) (hts (.static Lib.Math.max.name) (by decide +kernel)) (hts (.initialized "java/lang/Math") (by decide +kernel)) (hts (.code Lib.Math.max.name Lib.Math.max.code 2 (some .int)) (by decide +kernel)) (Nat.le_of_ble_eq_true rfl) (Nat.le_of_ble_eq_true rfl) (Nat.le_of_ble_eq_true rfl) (Nat.le_of_ble_eq_true rfl) dX4_init_16 ?_
  refine lv_topi (fun z2 ez2 => ?_)
  obtain rfl : z2 = 60 := ez2.trans (by first | rfl | decide)
  refine lv_aload_n hx hb dX4_init_19 rfl (lv_at hl 0 rfl) ?_
  refine va_get (D := (dC, dI)) (ci := 4) (v := .int 3) (C := RX4) (T := TX4) (N := 3) hx hb hts hfX4 hown hK hP 0 rfl rfl 0 (by decide) (hts (.fieldLink RX4 15 "ColdShips$Rows" "width" "I") (by decide +kernel)) (fun _ h9 => h9) rfl dX4_init_20 ?_
  refine lv_imul hx hb dX4_init_23 ?_
  refine lv_topi (fun z3 ez3 => ?_)
  obtain rfl : z3 = 180 := ez3.trans (by first | rfl | decide)
  refine va_newa (atype := .long) hx hb (hts (.arrayClass .long) (by decide +kernel)) (ty := .long) rfl hK hP hD hS hA (a0 := (180, .inr (.inl (fun _ => 0)))) (fun cA => pz_na_long cA 180) (by decide +kernel : ¬ (180 : Int32) < 0) (by decide +kernel : (180 : Int32).toNatClampNeg = 180) (by decide +kernel) (Nat.le_of_ble_eq_true rfl) (Nat.le_of_ble_eq_true rfl) dX4_init_24 (fun q4 k5 H hK hP hD hS => ?_)
  have hP : va_P (dC, dI) vwCl [(rr, .inr (4, [.int 3, .null, .int 0])), (q4, .inl (k5, 180, .inr (.inl (fun _ => 0))))] H := hP
  have hD : va_D A [(rr, .inr (4, [.int 3, .null, .int 0])), (q4, .inl (k5, 180, .inr (.inl (fun _ => 0))))] := hD
  have hK : va_K (dC, dI) vwCl [(k5, .long)] s := hK
  refine va_putF (D := (dC, dI)) (ci := 4) (v := .ref q4) (ty := (.array .long)) (C := RX4) (T := TX4) (N := 3) hx hb hts hfX4 tyX4 tyX4_ok nmX4 hown hK hP hD hS 0 rfl rfl 1 (by decide) (hts (.fieldLink RX4 21 "ColdShips$Rows" "cells" "[J") (by decide +kernel)) (fun _ h9 => h9) rfl hin rfl (by decide +kernel) rfl rfl (Nat.le_of_ble_eq_true rfl) dX4_init_26 (fun H locs hP hD hS => ?_)
  have hP : va_P (dC, dI) vwCl [(rr, .inr (4, [.int 3, .ref q4, .int 0])), (q4, .inl (k5, 180, .inr (.inl (fun _ => 0))))] H := hP
  have hD : va_D A [(rr, .inr (4, [.int 3, .ref q4, .int 0])), (q4, .inl (k5, 180, .inr (.inl (fun _ => 0))))] := hD
  have hP9 := hP.sub (ws' := [(rr, .inr (4, [.int 3, .ref q4, .int 0])), (q4, .inl (k5, 180, .inr (.inl (fun _ => 0))))]) [0, 1] rfl
  have hD9 := hD.sub (ws' := [(rr, .inr (4, [.int 3, .ref q4, .int 0])), (q4, .inl (k5, 180, .inr (.inl (fun _ => 0))))]) [0, 1] (by decide +kernel) rfl
  have hK9 := hK.sub (tys' := [(k5, .long)]) [0] rfl
  exact W.vret hx hb hr (fun t ht hW => ⟨⟨(), rfl, trivial, ⟨q4, k5, by rw [ht]; exact hP9, va_K.moved hW.alike hK9, hD9⟩⟩, hS.F ht⟩) hS.2.2 dX4_init_29
set_option maxHeartbeats 4000000 in
set_option maxRecDepth 100000 in
theorem c_X4_init_60_5 (l : Launch) (dC : Nat → ClassId) (dI : Nat → Nat → Nat) (sz : Nat) (rr : Nat)  : Met l yX4_init wsX4_init ({ frames := 3, cells := 1, slots := 300, locals := 800 }) (va_Pc [.ref rr, .int 60, .int 5] (pz_B dC dI [] [(rr, .inr (4, [.int 0, .null, .int 0]))] sz)) (va_Qv (fun (_ : Unit) => True) (fun (_ : Unit) (t : State) => ∃ rrc : Nat, ∃ krr : ClassId, pz_E dC dI [(krr, .long)] (va_A [(rr, .inr (4, [.int 0, .null, .int 0]))] sz) [(rr, .inr (4, [.int 5, .ref rrc, .int 0])), (rrc, .inl (krr, 300, .inr (.inl (fun _ => 0))))] t) (va_A [(rr, .inr (4, [.int 0, .null, .int 0]))] sz)) 1 300 (va_A [(rr, .inr (4, [.int 0, .null, .int 0]))] sz) := by
  refine Met.ofW (cc := cX4_init) (maxL := 3) (ret := none) (by decide) rfl ?_
  intro p e s m args below meth c s₁ B hml hv
  obtain ⟨rfl, hsz, hP, hK, hD0, hN⟩ := hv
  have hx := B.exec
  have hb := B.bytes
  have hr := B.returns
  have hts := atoms_spec (ws := wsX4_init) B.pre
  have hown : s.vm.findClass RX4 = some m.cls := findClass_of_methodNamed B.named
  have hlocks := B.notSynchronized
  have hin : meth.name = "<init>" := (name_of_methodNamed B.named B.method).1
  subst hsz
  have hD := hD0.self (sz := s.heap.size)
  generalize hAe : va_A [(rr, .inr (4, [.int 0, .null, .int 0]))] s.heap.size = A at hD ⊢
  have hA : ∀ q : Nat, s.heap.size ≤ q → A q := fun q h => by rw [← hAe]; exact Or.inr h
  have hS : va_S A s.heap s.heap [] := va_S.rf
  have hl := lv_entry ([.ref rr, .int 60, .int 5]) (n := 3) (Nat.le_of_ble_eq_true rfl)
  rw [lg_entry_eq]
  generalize (lg_sl ([.ref rr, .int 60, .int 5]) ++ List.replicate (3 - (lg_sl ([.ref rr, .int 60, .int 5])).length) Slot.unset).toArray = ls at hl ⊢
  have hl : lv_has ls 3 [(0, .ref rr), (1, .int 60), (2, .int 5)] := hl
  have hfX4 : ∀ w ∈ wsX40, w ∈ wsX4_init := fun w h => List.mem_cons_of_mem _ (List.mem_append_right _ h)
  refine lv_aload_n hx hb dX4_init_0 rfl (lv_at hl 0 rfl) ?_
  refine W.objInit hx hb hown (hts (.methodLink RX4 3 objectInit) (by decide +kernel)) (hts (.instanceMethod objectInit) (by decide +kernel)) (hts (.code objectInit ⟨#[0xb1]⟩ 1 none) (by decide +kernel)) rfl (by rw [hml]; exact hl.1) rfl dX4_init_1 (Nat.le_of_ble_eq_true rfl) (Nat.le_of_ble_eq_true rfl) ?_
  refine W.eq (g2 := F0 m 4 ls []) rfl ?_
  refine lv_aload_n hx hb dX4_init_4 rfl (lv_at hl 0 rfl) ?_
  refine lv_iconst (v := 1) hx hb dX4_init_5 (by decide) ?_
  refine lv_iload_n hx hb dX4_init_6 rfl (lv_at hl 2 rfl) ?_
  refine va_mmax hx hb (by rw [hml]; exact hl.1.symm) hown (hts (.methodLink RX4 9 Lib.Math.max.name) (by decide +kernel)) (hts (.static Lib.Math.max.name) (by decide +kernel)) (hts (.initialized "java/lang/Math") (by decide +kernel)) (hts (.code Lib.Math.max.name Lib.Math.max.code 2 (some .int)) (by decide +kernel)) (Nat.le_of_ble_eq_true rfl) (Nat.le_of_ble_eq_true rfl) (Nat.le_of_ble_eq_true rfl) (Nat.le_of_ble_eq_true rfl) dX4_init_7 ?_
  refine lv_topi (fun z1 ez1 => ?_)
  obtain rfl : z1 = 5 := ez1.trans (by first | rfl | decide)
  refine va_putF (D := (dC, dI)) (ci := 4) (v := .int 5) (ty := .int) (C := RX4) (T := TX4) (N := 3) hx hb hts hfX4 tyX4 tyX4_ok nmX4 hown hK hP hD hS 0 rfl rfl 0 (by decide) (hts (.fieldLink RX4 15 "ColdShips$Rows" "width" "I") (by decide +kernel)) (fun _ h9 => h9) rfl hin rfl (by decide +kernel) rfl rfl (Nat.le_of_ble_eq_true rfl) dX4_init_10 (fun H locs hP hD hS => ?_)
  have hP : va_P (dC, dI) vwCl [(rr, .inr (4, [.int 5, .null, .int 0]))] H := hP
  have hD : va_D A [(rr, .inr (4, [.int 5, .null, .int 0]))] := hD
  refine lv_aload_n hx hb dX4_init_13 rfl (lv_at hl 0 rfl) ?_
  refine lv_iconst (v := 0) hx hb dX4_init_14 (by decide) ?_
  refine lv_iload_n hx hb dX4_init_15 rfl (lv_at hl 1 rfl) ?_
  refine va_mmax hx hb (by rw [hml]; exact hl.1.symm) hown (hts (.methodLink RX4 9 Lib.Math.max.name) (by decide +kernel)) (hts (.static Lib.Math.max.name) (by decide +kernel)) (hts (.initialized "java/lang/Math") (by decide +kernel)) (hts (.code Lib.Math.max.name Lib.Math.max.code 2 (some .int)) (by decide +kernel)) (Nat.le_of_ble_eq_true rfl) (Nat.le_of_ble_eq_true rfl) (Nat.le_of_ble_eq_true rfl) (Nat.le_of_ble_eq_true rfl) dX4_init_16 ?_
  refine lv_topi (fun z2 ez2 => ?_)
  obtain rfl : z2 = 60 := ez2.trans (by first | rfl | decide)
  refine lv_aload_n hx hb dX4_init_19 rfl (lv_at hl 0 rfl) ?_
  refine va_get (D := (dC, dI)) (ci := 4) (v := .int 5) (C := RX4) (T := TX4) (N := 3) hx hb hts hfX4 hown hK hP 0 rfl rfl 0 (by decide) (hts (.fieldLink RX4 15 "ColdShips$Rows" "width" "I") (by decide +kernel)) (fun _ h9 => h9) rfl dX4_init_20 ?_
  refine lv_imul hx hb dX4_init_23 ?_
  refine lv_topi (fun z3 ez3 => ?_)
  obtain rfl : z3 = 300 := ez3.trans (by first | rfl | decide)
  refine va_newa (atype := .long) hx hb (hts (.arrayClass .long) (by decide +kernel)) (ty := .long) rfl hK hP hD hS hA (a0 := (300, .inr (.inl (fun _ => 0)))) (fun cA => pz_na_long cA 300) (by decide +kernel : ¬ (300 : Int32) < 0) (by decide +kernel : (300 : Int32).toNatClampNeg = 300) (by decide +kernel) (Nat.le_of_ble_eq_true rfl) (Nat.le_of_ble_eq_true rfl) dX4_init_24 (fun q4 k5 H hK hP hD hS => ?_)
  have hP : va_P (dC, dI) vwCl [(rr, .inr (4, [.int 5, .null, .int 0])), (q4, .inl (k5, 300, .inr (.inl (fun _ => 0))))] H := hP
  have hD : va_D A [(rr, .inr (4, [.int 5, .null, .int 0])), (q4, .inl (k5, 300, .inr (.inl (fun _ => 0))))] := hD
  have hK : va_K (dC, dI) vwCl [(k5, .long)] s := hK
  refine va_putF (D := (dC, dI)) (ci := 4) (v := .ref q4) (ty := (.array .long)) (C := RX4) (T := TX4) (N := 3) hx hb hts hfX4 tyX4 tyX4_ok nmX4 hown hK hP hD hS 0 rfl rfl 1 (by decide) (hts (.fieldLink RX4 21 "ColdShips$Rows" "cells" "[J") (by decide +kernel)) (fun _ h9 => h9) rfl hin rfl (by decide +kernel) rfl rfl (Nat.le_of_ble_eq_true rfl) dX4_init_26 (fun H locs hP hD hS => ?_)
  have hP : va_P (dC, dI) vwCl [(rr, .inr (4, [.int 5, .ref q4, .int 0])), (q4, .inl (k5, 300, .inr (.inl (fun _ => 0))))] H := hP
  have hD : va_D A [(rr, .inr (4, [.int 5, .ref q4, .int 0])), (q4, .inl (k5, 300, .inr (.inl (fun _ => 0))))] := hD
  have hP9 := hP.sub (ws' := [(rr, .inr (4, [.int 5, .ref q4, .int 0])), (q4, .inl (k5, 300, .inr (.inl (fun _ => 0))))]) [0, 1] rfl
  have hD9 := hD.sub (ws' := [(rr, .inr (4, [.int 5, .ref q4, .int 0])), (q4, .inl (k5, 300, .inr (.inl (fun _ => 0))))]) [0, 1] (by decide +kernel) rfl
  have hK9 := hK.sub (tys' := [(k5, .long)]) [0] rfl
  exact W.vret hx hb hr (fun t ht hW => ⟨⟨(), rfl, trivial, ⟨q4, k5, by rw [ht]; exact hP9, va_K.moved hW.alike hK9, hD9⟩⟩, hS.F ht⟩) hS.2.2 dX4_init_29
set_option maxHeartbeats 4000000 in
set_option maxRecDepth 100000 in
theorem c_X4_init_60_15 (l : Launch) (dC : Nat → ClassId) (dI : Nat → Nat → Nat) (sz : Nat) (rr : Nat)  : Met l yX4_init wsX4_init ({ frames := 3, cells := 1, slots := 900, locals := 800 }) (va_Pc [.ref rr, .int 60, .int 15] (pz_B dC dI [] [(rr, .inr (4, [.int 0, .null, .int 0]))] sz)) (va_Qv (fun (_ : Unit) => True) (fun (_ : Unit) (t : State) => ∃ rrc : Nat, ∃ krr : ClassId, pz_E dC dI [(krr, .long)] (va_A [(rr, .inr (4, [.int 0, .null, .int 0]))] sz) [(rr, .inr (4, [.int 15, .ref rrc, .int 0])), (rrc, .inl (krr, 900, .inr (.inl (fun _ => 0))))] t) (va_A [(rr, .inr (4, [.int 0, .null, .int 0]))] sz)) 1 900 (va_A [(rr, .inr (4, [.int 0, .null, .int 0]))] sz) := by
  refine Met.ofW (cc := cX4_init) (maxL := 3) (ret := none) (by decide) rfl ?_
  intro p e s m args below meth c s₁ B hml hv
  obtain ⟨rfl, hsz, hP, hK, hD0, hN⟩ := hv
  have hx := B.exec
  have hb := B.bytes
  have hr := B.returns
  have hts := atoms_spec (ws := wsX4_init) B.pre
  have hown : s.vm.findClass RX4 = some m.cls := findClass_of_methodNamed B.named
  have hlocks := B.notSynchronized
  have hin : meth.name = "<init>" := (name_of_methodNamed B.named B.method).1
  subst hsz
  have hD := hD0.self (sz := s.heap.size)
  generalize hAe : va_A [(rr, .inr (4, [.int 0, .null, .int 0]))] s.heap.size = A at hD ⊢
  have hA : ∀ q : Nat, s.heap.size ≤ q → A q := fun q h => by rw [← hAe]; exact Or.inr h
  have hS : va_S A s.heap s.heap [] := va_S.rf
  have hl := lv_entry ([.ref rr, .int 60, .int 15]) (n := 3) (Nat.le_of_ble_eq_true rfl)
  rw [lg_entry_eq]
  generalize (lg_sl ([.ref rr, .int 60, .int 15]) ++ List.replicate (3 - (lg_sl ([.ref rr, .int 60, .int 15])).length) Slot.unset).toArray = ls at hl ⊢
  have hl : lv_has ls 3 [(0, .ref rr), (1, .int 60), (2, .int 15)] := hl
  have hfX4 : ∀ w ∈ wsX40, w ∈ wsX4_init := fun w h => List.mem_cons_of_mem _ (List.mem_append_right _ h)
  refine lv_aload_n hx hb dX4_init_0 rfl (lv_at hl 0 rfl) ?_
  refine W.objInit hx hb hown (hts (.methodLink RX4 3 objectInit) (by decide +kernel)) (hts (.instanceMethod objectInit) (by decide +kernel)) (hts (.code objectInit ⟨#[0xb1]⟩ 1 none) (by decide +kernel)) rfl (by rw [hml]; exact hl.1) rfl dX4_init_1 (Nat.le_of_ble_eq_true rfl) (Nat.le_of_ble_eq_true rfl) ?_
  refine W.eq (g2 := F0 m 4 ls []) rfl ?_
  refine lv_aload_n hx hb dX4_init_4 rfl (lv_at hl 0 rfl) ?_
  refine lv_iconst (v := 1) hx hb dX4_init_5 (by decide) ?_
  refine lv_iload_n hx hb dX4_init_6 rfl (lv_at hl 2 rfl) ?_
  refine va_mmax hx hb (by rw [hml]; exact hl.1.symm) hown (hts (.methodLink RX4 9 Lib.Math.max.name) (by decide +kernel)) (hts (.static Lib.Math.max.name) (by decide +kernel)) (hts (.initialized "java/lang/Math") (by decide +kernel)) (hts (.code Lib.Math.max.name Lib.Math.max.code 2 (some .int)) (by decide +kernel)) (Nat.le_of_ble_eq_true rfl) (Nat.le_of_ble_eq_true rfl) (Nat.le_of_ble_eq_true rfl) (Nat.le_of_ble_eq_true rfl) dX4_init_7 ?_
  refine lv_topi (fun z1 ez1 => ?_)
  obtain rfl : z1 = 15 := ez1.trans (by first | rfl | decide)
  refine va_putF (D := (dC, dI)) (ci := 4) (v := .int 15) (ty := .int) (C := RX4) (T := TX4) (N := 3) hx hb hts hfX4 tyX4 tyX4_ok nmX4 hown hK hP hD hS 0 rfl rfl 0 (by decide) (hts (.fieldLink RX4 15 "ColdShips$Rows" "width" "I") (by decide +kernel)) (fun _ h9 => h9) rfl hin rfl (by decide +kernel) rfl rfl (Nat.le_of_ble_eq_true rfl) dX4_init_10 (fun H locs hP hD hS => ?_)
  have hP : va_P (dC, dI) vwCl [(rr, .inr (4, [.int 15, .null, .int 0]))] H := hP
  have hD : va_D A [(rr, .inr (4, [.int 15, .null, .int 0]))] := hD
  refine lv_aload_n hx hb dX4_init_13 rfl (lv_at hl 0 rfl) ?_
  refine lv_iconst (v := 0) hx hb dX4_init_14 (by decide) ?_
  refine lv_iload_n hx hb dX4_init_15 rfl (lv_at hl 1 rfl) ?_
  refine va_mmax hx hb (by rw [hml]; exact hl.1.symm) hown (hts (.methodLink RX4 9 Lib.Math.max.name) (by decide +kernel)) (hts (.static Lib.Math.max.name) (by decide +kernel)) (hts (.initialized "java/lang/Math") (by decide +kernel)) (hts (.code Lib.Math.max.name Lib.Math.max.code 2 (some .int)) (by decide +kernel)) (Nat.le_of_ble_eq_true rfl) (Nat.le_of_ble_eq_true rfl) (Nat.le_of_ble_eq_true rfl) (Nat.le_of_ble_eq_true rfl) dX4_init_16 ?_
  refine lv_topi (fun z2 ez2 => ?_)
  obtain rfl : z2 = 60 := ez2.trans (by first | rfl | decide)
  refine lv_aload_n hx hb dX4_init_19 rfl (lv_at hl 0 rfl) ?_
  refine va_get (D := (dC, dI)) (ci := 4) (v := .int 15) (C := RX4) (T := TX4) (N := 3) hx hb hts hfX4 hown hK hP 0 rfl rfl 0 (by decide) (hts (.fieldLink RX4 15 "ColdShips$Rows" "width" "I") (by decide +kernel)) (fun _ h9 => h9) rfl dX4_init_20 ?_
  refine lv_imul hx hb dX4_init_23 ?_
  refine lv_topi (fun z3 ez3 => ?_)
  obtain rfl : z3 = 900 := ez3.trans (by first | rfl | decide)
  refine va_newa (atype := .long) hx hb (hts (.arrayClass .long) (by decide +kernel)) (ty := .long) rfl hK hP hD hS hA (a0 := (900, .inr (.inl (fun _ => 0)))) (fun cA => pz_na_long cA 900) (by decide +kernel : ¬ (900 : Int32) < 0) (by decide +kernel : (900 : Int32).toNatClampNeg = 900) (by decide +kernel) (Nat.le_of_ble_eq_true rfl) (Nat.le_of_ble_eq_true rfl) dX4_init_24 (fun q4 k5 H hK hP hD hS => ?_)
  have hP : va_P (dC, dI) vwCl [(rr, .inr (4, [.int 15, .null, .int 0])), (q4, .inl (k5, 900, .inr (.inl (fun _ => 0))))] H := hP
  have hD : va_D A [(rr, .inr (4, [.int 15, .null, .int 0])), (q4, .inl (k5, 900, .inr (.inl (fun _ => 0))))] := hD
  have hK : va_K (dC, dI) vwCl [(k5, .long)] s := hK
  refine va_putF (D := (dC, dI)) (ci := 4) (v := .ref q4) (ty := (.array .long)) (C := RX4) (T := TX4) (N := 3) hx hb hts hfX4 tyX4 tyX4_ok nmX4 hown hK hP hD hS 0 rfl rfl 1 (by decide) (hts (.fieldLink RX4 21 "ColdShips$Rows" "cells" "[J") (by decide +kernel)) (fun _ h9 => h9) rfl hin rfl (by decide +kernel) rfl rfl (Nat.le_of_ble_eq_true rfl) dX4_init_26 (fun H locs hP hD hS => ?_)
  have hP : va_P (dC, dI) vwCl [(rr, .inr (4, [.int 15, .ref q4, .int 0])), (q4, .inl (k5, 900, .inr (.inl (fun _ => 0))))] H := hP
  have hD : va_D A [(rr, .inr (4, [.int 15, .ref q4, .int 0])), (q4, .inl (k5, 900, .inr (.inl (fun _ => 0))))] := hD
  have hP9 := hP.sub (ws' := [(rr, .inr (4, [.int 15, .ref q4, .int 0])), (q4, .inl (k5, 900, .inr (.inl (fun _ => 0))))]) [0, 1] rfl
  have hD9 := hD.sub (ws' := [(rr, .inr (4, [.int 15, .ref q4, .int 0])), (q4, .inl (k5, 900, .inr (.inl (fun _ => 0))))]) [0, 1] (by decide +kernel) rfl
  have hK9 := hK.sub (tys' := [(k5, .long)]) [0] rfl
  exact W.vret hx hb hr (fun t ht hW => ⟨⟨(), rfl, trivial, ⟨q4, k5, by rw [ht]; exact hP9, va_K.moved hW.alike hK9, hD9⟩⟩, hS.F ht⟩) hS.2.2 dX4_init_29
set_option maxHeartbeats 4000000 in
set_option maxRecDepth 100000 in
theorem c_X4_init_6_8 (l : Launch) (dC : Nat → ClassId) (dI : Nat → Nat → Nat) (sz : Nat) (rr : Nat)  : Met l yX4_init wsX4_init ({ frames := 3, cells := 1, slots := 48, locals := 800 }) (va_Pc [.ref rr, .int 6, .int 8] (pz_B dC dI [] [(rr, .inr (4, [.int 0, .null, .int 0]))] sz)) (va_Qv (fun (_ : Unit) => True) (fun (_ : Unit) (t : State) => ∃ rrc : Nat, ∃ krr : ClassId, pz_E dC dI [(krr, .long)] (va_A [(rr, .inr (4, [.int 0, .null, .int 0]))] sz) [(rr, .inr (4, [.int 8, .ref rrc, .int 0])), (rrc, .inl (krr, 48, .inr (.inl (fun _ => 0))))] t) (va_A [(rr, .inr (4, [.int 0, .null, .int 0]))] sz)) 1 48 (va_A [(rr, .inr (4, [.int 0, .null, .int 0]))] sz) := by
  refine Met.ofW (cc := cX4_init) (maxL := 3) (ret := none) (by decide) rfl ?_
  intro p e s m args below meth c s₁ B hml hv
  obtain ⟨rfl, hsz, hP, hK, hD0, hN⟩ := hv
  have hx := B.exec
  have hb := B.bytes
  have hr := B.returns
  have hts := atoms_spec (ws := wsX4_init) B.pre
  have hown : s.vm.findClass RX4 = some m.cls := findClass_of_methodNamed B.named
  have hlocks := B.notSynchronized
  have hin : meth.name = "<init>" := (name_of_methodNamed B.named B.method).1
  subst hsz
  have hD := hD0.self (sz := s.heap.size)
  generalize hAe : va_A [(rr, .inr (4, [.int 0, .null, .int 0]))] s.heap.size = A at hD ⊢
  have hA : ∀ q : Nat, s.heap.size ≤ q → A q := fun q h => by rw [← hAe]; exact Or.inr h
  have hS : va_S A s.heap s.heap [] := va_S.rf
  have hl := lv_entry ([.ref rr, .int 6, .int 8]) (n := 3) (Nat.le_of_ble_eq_true rfl)
  rw [lg_entry_eq]
  generalize (lg_sl ([.ref rr, .int 6, .int 8]) ++ List.replicate (3 - (lg_sl ([.ref rr, .int 6, .int 8])).length) Slot.unset).toArray = ls at hl ⊢
  have hl : lv_has ls 3 [(0, .ref rr), (1, .int 6), (2, .int 8)] := hl
  have hfX4 : ∀ w ∈ wsX40, w ∈ wsX4_init := fun w h => List.mem_cons_of_mem _ (List.mem_append_right _ h)
  refine lv_aload_n hx hb dX4_init_0 rfl (lv_at hl 0 rfl) ?_
  refine W.objInit hx hb hown (hts (.methodLink RX4 3 objectInit) (by decide +kernel)) (hts (.instanceMethod objectInit) (by decide +kernel)) (hts (.code objectInit ⟨#[0xb1]⟩ 1 none) (by decide +kernel)) rfl (by rw [hml]; exact hl.1) rfl dX4_init_1 (Nat.le_of_ble_eq_true rfl) (Nat.le_of_ble_eq_true rfl) ?_
  refine W.eq (g2 := F0 m 4 ls []) rfl ?_
  refine lv_aload_n hx hb dX4_init_4 rfl (lv_at hl 0 rfl) ?_
  refine lv_iconst (v := 1) hx hb dX4_init_5 (by decide) ?_
  refine lv_iload_n hx hb dX4_init_6 rfl (lv_at hl 2 rfl) ?_
  refine va_mmax hx hb (by rw [hml]; exact hl.1.symm) hown (hts (.methodLink RX4 9 Lib.Math.max.name) (by decide +kernel)) (hts (.static Lib.Math.max.name) (by decide +kernel)) (hts (.initialized "java/lang/Math") (by decide +kernel)) (hts (.code Lib.Math.max.name Lib.Math.max.code 2 (some .int)) (by decide +kernel)) (Nat.le_of_ble_eq_true rfl) (Nat.le_of_ble_eq_true rfl) (Nat.le_of_ble_eq_true rfl) (Nat.le_of_ble_eq_true rfl) dX4_init_7 ?_
  refine lv_topi (fun z1 ez1 => ?_)
  obtain rfl : z1 = 8 := ez1.trans (by first | rfl | decide)
  refine va_putF (D := (dC, dI)) (ci := 4) (v := .int 8) (ty := .int) (C := RX4) (T := TX4) (N := 3) hx hb hts hfX4 tyX4 tyX4_ok nmX4 hown hK hP hD hS 0 rfl rfl 0 (by decide) (hts (.fieldLink RX4 15 "ColdShips$Rows" "width" "I") (by decide +kernel)) (fun _ h9 => h9) rfl hin rfl (by decide +kernel) rfl rfl (Nat.le_of_ble_eq_true rfl) dX4_init_10 (fun H locs hP hD hS => ?_)
  have hP : va_P (dC, dI) vwCl [(rr, .inr (4, [.int 8, .null, .int 0]))] H := hP
  have hD : va_D A [(rr, .inr (4, [.int 8, .null, .int 0]))] := hD
  refine lv_aload_n hx hb dX4_init_13 rfl (lv_at hl 0 rfl) ?_
  refine lv_iconst (v := 0) hx hb dX4_init_14 (by decide) ?_
  refine lv_iload_n hx hb dX4_init_15 rfl (lv_at hl 1 rfl) ?_
  refine va_mmax hx hb (by rw [hml]; exact hl.1.symm) hown (hts (.methodLink RX4 9 Lib.Math.max.name) (by decide +kernel)) (hts (.static Lib.Math.max.name) (by decide +kernel)) (hts (.initialized "java/lang/Math") (by decide +kernel)) (hts (.code Lib.Math.max.name Lib.Math.max.code 2 (some .int)) (by decide +kernel)) (Nat.le_of_ble_eq_true rfl) (Nat.le_of_ble_eq_true rfl) (Nat.le_of_ble_eq_true rfl) (Nat.le_of_ble_eq_true rfl) dX4_init_16 ?_
  refine lv_topi (fun z2 ez2 => ?_)
  obtain rfl : z2 = 6 := ez2.trans (by first | rfl | decide)
  refine lv_aload_n hx hb dX4_init_19 rfl (lv_at hl 0 rfl) ?_
  refine va_get (D := (dC, dI)) (ci := 4) (v := .int 8) (C := RX4) (T := TX4) (N := 3) hx hb hts hfX4 hown hK hP 0 rfl rfl 0 (by decide) (hts (.fieldLink RX4 15 "ColdShips$Rows" "width" "I") (by decide +kernel)) (fun _ h9 => h9) rfl dX4_init_20 ?_
  refine lv_imul hx hb dX4_init_23 ?_
  refine lv_topi (fun z3 ez3 => ?_)
  obtain rfl : z3 = 48 := ez3.trans (by first | rfl | decide)
  refine va_newa (atype := .long) hx hb (hts (.arrayClass .long) (by decide +kernel)) (ty := .long) rfl hK hP hD hS hA (a0 := (48, .inr (.inl (fun _ => 0)))) (fun cA => pz_na_long cA 48) (by decide +kernel : ¬ (48 : Int32) < 0) (by decide +kernel : (48 : Int32).toNatClampNeg = 48) (by decide +kernel) (Nat.le_of_ble_eq_true rfl) (Nat.le_of_ble_eq_true rfl) dX4_init_24 (fun q4 k5 H hK hP hD hS => ?_)
  have hP : va_P (dC, dI) vwCl [(rr, .inr (4, [.int 8, .null, .int 0])), (q4, .inl (k5, 48, .inr (.inl (fun _ => 0))))] H := hP
  have hD : va_D A [(rr, .inr (4, [.int 8, .null, .int 0])), (q4, .inl (k5, 48, .inr (.inl (fun _ => 0))))] := hD
  have hK : va_K (dC, dI) vwCl [(k5, .long)] s := hK
  refine va_putF (D := (dC, dI)) (ci := 4) (v := .ref q4) (ty := (.array .long)) (C := RX4) (T := TX4) (N := 3) hx hb hts hfX4 tyX4 tyX4_ok nmX4 hown hK hP hD hS 0 rfl rfl 1 (by decide) (hts (.fieldLink RX4 21 "ColdShips$Rows" "cells" "[J") (by decide +kernel)) (fun _ h9 => h9) rfl hin rfl (by decide +kernel) rfl rfl (Nat.le_of_ble_eq_true rfl) dX4_init_26 (fun H locs hP hD hS => ?_)
  have hP : va_P (dC, dI) vwCl [(rr, .inr (4, [.int 8, .ref q4, .int 0])), (q4, .inl (k5, 48, .inr (.inl (fun _ => 0))))] H := hP
  have hD : va_D A [(rr, .inr (4, [.int 8, .ref q4, .int 0])), (q4, .inl (k5, 48, .inr (.inl (fun _ => 0))))] := hD
  have hP9 := hP.sub (ws' := [(rr, .inr (4, [.int 8, .ref q4, .int 0])), (q4, .inl (k5, 48, .inr (.inl (fun _ => 0))))]) [0, 1] rfl
  have hD9 := hD.sub (ws' := [(rr, .inr (4, [.int 8, .ref q4, .int 0])), (q4, .inl (k5, 48, .inr (.inl (fun _ => 0))))]) [0, 1] (by decide +kernel) rfl
  have hK9 := hK.sub (tys' := [(k5, .long)]) [0] rfl
  exact W.vret hx hb hr (fun t ht hW => ⟨⟨(), rfl, trivial, ⟨q4, k5, by rw [ht]; exact hP9, va_K.moved hW.alike hK9, hD9⟩⟩, hS.F ht⟩) hS.2.2 dX4_init_29
set_option maxHeartbeats 4000000 in
set_option maxRecDepth 100000 in
theorem c_X9_init (l : Launch) (dC : Nat → ClassId) (dI : Nat → Nat → Nat) (sz : Nat) (wa : Nat) (wd : Nat)  : Met l yX9_init wsX9_init ({ frames := 3, cells := 0, slots := 0, locals := 800 }) (va_Pc [.ref wa, .ref wd] (pz_B dC dI [] [(wa, .inr (9, [.null, .int 0, .int 0, .int 0]))] sz)) (va_Qv (fun (_ : Unit) => True) (fun (_ : Unit) (t : State) => pz_E dC dI [] (va_A [(wa, .inr (9, [.null, .int 0, .int 0, .int 0]))] sz) [(wa, .inr (9, [.ref wd, .int 0, .int 0, .int 0]))] t) (va_A [(wa, .inr (9, [.null, .int 0, .int 0, .int 0]))] sz)) 0 0 (va_A [(wa, .inr (9, [.null, .int 0, .int 0, .int 0]))] sz) := by
  refine Met.ofW (cc := cX9_init) (maxL := 2) (ret := none) (by decide) rfl ?_
  intro p e s m args below meth c s₁ B hml hv
  obtain ⟨rfl, hsz, hP, hK, hD0, hN⟩ := hv
  have hx := B.exec
  have hb := B.bytes
  have hr := B.returns
  have hts := atoms_spec (ws := wsX9_init) B.pre
  have hown : s.vm.findClass RX9 = some m.cls := findClass_of_methodNamed B.named
  have hlocks := B.notSynchronized
  have hin : meth.name = "<init>" := (name_of_methodNamed B.named B.method).1
  subst hsz
  have hD := hD0.self (sz := s.heap.size)
  generalize hAe : va_A [(wa, .inr (9, [.null, .int 0, .int 0, .int 0]))] s.heap.size = A at hD ⊢
  have hA : ∀ q : Nat, s.heap.size ≤ q → A q := fun q h => by rw [← hAe]; exact Or.inr h
  have hS : va_S A s.heap s.heap [] := va_S.rf
  have hl := lv_entry ([.ref wa, .ref wd]) (n := 2) (Nat.le_of_ble_eq_true rfl)
  rw [lg_entry_eq]
  generalize (lg_sl ([.ref wa, .ref wd]) ++ List.replicate (2 - (lg_sl ([.ref wa, .ref wd])).length) Slot.unset).toArray = ls at hl ⊢
  have hl : lv_has ls 2 [(0, .ref wa), (1, .ref wd)] := hl
  have hfX9 : ∀ w ∈ wsX90, w ∈ wsX9_init := fun w h => List.mem_cons_of_mem _ (List.mem_append_right _ h)
  refine lv_aload_n hx hb dX9_init_0 rfl (lv_at hl 0 rfl) ?_
  refine W.objInit hx hb hown (hts (.methodLink RX9 3 objectInit) (by decide +kernel)) (hts (.instanceMethod objectInit) (by decide +kernel)) (hts (.code objectInit ⟨#[0xb1]⟩ 1 none) (by decide +kernel)) rfl (by rw [hml]; exact hl.1) rfl dX9_init_1 (Nat.le_of_ble_eq_true rfl) (Nat.le_of_ble_eq_true rfl) ?_
  refine W.eq (g2 := F0 m 4 ls []) rfl ?_
  refine lv_aload_n hx hb dX9_init_4 rfl (lv_at hl 0 rfl) ?_
  refine lv_aload_n hx hb dX9_init_5 rfl (lv_at hl 1 rfl) ?_
  refine va_putF (D := (dC, dI)) (ci := 9) (v := .ref wd) (ty := (.object "ColdShips$World")) (C := RX9) (T := TX9) (N := 4) hx hb hts hfX9 tyX9 tyX9_ok nmX9 hown hK hP hD hS 0 rfl rfl 0 (by decide) (hts (.fieldLink RX9 9 "ColdShips$Watch" "world" "LColdShips$World;") (by decide +kernel)) (fun _ h9 => h9) rfl hin rfl (by decide +kernel) rfl rfl (Nat.le_of_ble_eq_true rfl) dX9_init_6 (fun H locs hP hD hS => ?_)
  have hP : va_P (dC, dI) vwCl [(wa, .inr (9, [.ref wd, .int 0, .int 0, .int 0]))] H := hP
  have hD : va_D A [(wa, .inr (9, [.ref wd, .int 0, .int 0, .int 0]))] := hD
  have hP9 := hP.sub (ws' := [(wa, .inr (9, [.ref wd, .int 0, .int 0, .int 0]))]) [0] rfl
  have hD9 := hD.sub (ws' := [(wa, .inr (9, [.ref wd, .int 0, .int 0, .int 0]))]) [0] (by decide +kernel) rfl
  have hK9 := hK.sub (tys' := []) [] rfl
  exact W.vret hx hb hr (fun t ht hW => ⟨⟨(), rfl, trivial, ⟨by rw [ht]; exact hP9, va_K.moved hW.alike hK9, hD9⟩⟩, hS.F ht⟩) hS.2.2 dX9_init_9
set_option maxHeartbeats 4000000 in
set_option maxRecDepth 100000 in
theorem c_X2_init (l : Launch) (dC : Nat → ClassId) (dI : Nat → Nat → Nat) (sz : Nat) (re : Nat)  : Met l yX2_init wsX2_init ({ frames := 3, cells := 3, slots := 813, locals := 800 }) (va_Pc [.ref re] (pz_B dC dI [] [(re, .inr (2, [.null, .int 0, .int 0, .int 0, .int 0, .int 0, .int 0, .null, .int 0, .null, .int 0, .int 0, .int 0, .int 0, .int 0, .int 0]))] sz)) (va_Qv (fun (_ : Unit) => True) (fun (_ : Unit) (t : State) => ∃ rtp : Nat, ∃ rcd : Nat, ∃ rst : Nat, ∃ kC : ClassId, pz_E dC dI [(kC, .char)] (va_A [(re, .inr (2, [.null, .int 0, .int 0, .int 0, .int 0, .int 0, .int 0, .null, .int 0, .null, .int 0, .int 0, .int 0, .int 0, .int 0, .int 0]))] sz) [(re, .inr (2, [.ref rtp, .int 0, .int (-1), .int 0, .int 0, .int 0, .int 0, .ref rcd, .int 0, .ref rst, .int 0, .int 0, .int 0, .int 0, .int 0, .int 0])), (rtp, .inl (kC, 400, .inl (fun _ => 0)))] t) (va_A [(re, .inr (2, [.null, .int 0, .int 0, .int 0, .int 0, .int 0, .int 0, .null, .int 0, .null, .int 0, .int 0, .int 0, .int 0, .int 0, .int 0]))] sz)) 3 813 (va_A [(re, .inr (2, [.null, .int 0, .int 0, .int 0, .int 0, .int 0, .int 0, .null, .int 0, .null, .int 0, .int 0, .int 0, .int 0, .int 0, .int 0]))] sz) := by
  refine Met.ofW (cc := cX2_init) (maxL := 1) (ret := none) (by decide) rfl ?_
  intro p e s m args below meth c s₁ B hml hv
  obtain ⟨rfl, hsz, hP, hK, hD0, hN⟩ := hv
  have hx := B.exec
  have hb := B.bytes
  have hr := B.returns
  have hts := atoms_spec (ws := wsX2_init) B.pre
  have hown : s.vm.findClass RX2 = some m.cls := findClass_of_methodNamed B.named
  have hlocks := B.notSynchronized
  have hin : meth.name = "<init>" := (name_of_methodNamed B.named B.method).1
  subst hsz
  have hD := hD0.self (sz := s.heap.size)
  generalize hAe : va_A [(re, .inr (2, [.null, .int 0, .int 0, .int 0, .int 0, .int 0, .int 0, .null, .int 0, .null, .int 0, .int 0, .int 0, .int 0, .int 0, .int 0]))] s.heap.size = A at hD ⊢
  have hA : ∀ q : Nat, s.heap.size ≤ q → A q := fun q h => by rw [← hAe]; exact Or.inr h
  have hS : va_S A s.heap s.heap [] := va_S.rf
  have hl := lv_entry ([.ref re]) (n := 1) (Nat.le_of_ble_eq_true rfl)
  rw [lg_entry_eq]
  generalize (lg_sl ([.ref re]) ++ List.replicate (1 - (lg_sl ([.ref re])).length) Slot.unset).toArray = ls at hl ⊢
  have hl : lv_has ls 1 [(0, .ref re)] := hl
  have hfX2 : ∀ w ∈ wsX20, w ∈ wsX2_init := fun w h => List.mem_cons_of_mem _ (List.mem_append_right _ h)
  refine lv_aload_n hx hb dX2_init_0 rfl (lv_at hl 0 rfl) ?_
  refine W.objInit hx hb hown (hts (.methodLink RX2 3 objectInit) (by decide +kernel)) (hts (.instanceMethod objectInit) (by decide +kernel)) (hts (.code objectInit ⟨#[0xb1]⟩ 1 none) (by decide +kernel)) rfl (by rw [hml]; exact hl.1) rfl dX2_init_1 (Nat.le_of_ble_eq_true rfl) (Nat.le_of_ble_eq_true rfl) ?_
  refine W.eq (g2 := F0 m 4 ls []) rfl ?_
  refine lv_aload_n hx hb dX2_init_4 rfl (lv_at hl 0 rfl) ?_
  refine lv_sipush (v := 400) hx hb dX2_init_5 (by decide) ?_
  refine va_newa (atype := .char) hx hb (hts (.arrayClass .char) (by decide +kernel)) (ty := .char) rfl hK hP hD hS hA (a0 := (400, .inl (fun _ => 0))) (fun cA => pz_na_char cA 400) (by decide +kernel : ¬ (400 : Int32) < 0) (by decide +kernel : (400 : Int32).toNatClampNeg = 400) (by decide +kernel) (Nat.le_of_ble_eq_true rfl) (Nat.le_of_ble_eq_true rfl) dX2_init_8 (fun q1 k2 H hK hP hD hS => ?_)
  have hP : va_P (dC, dI) vwCl [(re, .inr (2, [.null, .int 0, .int 0, .int 0, .int 0, .int 0, .int 0, .null, .int 0, .null, .int 0, .int 0, .int 0, .int 0, .int 0, .int 0])), (q1, .inl (k2, 400, .inl (fun _ => 0)))] H := hP
  have hD : va_D A [(re, .inr (2, [.null, .int 0, .int 0, .int 0, .int 0, .int 0, .int 0, .null, .int 0, .null, .int 0, .int 0, .int 0, .int 0, .int 0, .int 0])), (q1, .inl (k2, 400, .inl (fun _ => 0)))] := hD
  have hK : va_K (dC, dI) vwCl [(k2, .char)] s := hK
  refine va_putF (D := (dC, dI)) (ci := 2) (v := .ref q1) (ty := (.array .char)) (C := RX2) (T := TX2) (N := 16) hx hb hts hfX2 tyX2 tyX2_ok nmX2 hown hK hP hD hS 0 rfl rfl 0 (by decide) (hts (.fieldLink RX2 11 "ColdShips$Reader" "tape" "[C") (by decide +kernel)) (fun _ h9 => h9) rfl hin rfl (by decide +kernel) rfl rfl (Nat.le_of_ble_eq_true rfl) dX2_init_10 (fun H locs hP hD hS => ?_)
  have hP : va_P (dC, dI) vwCl [(re, .inr (2, [.ref q1, .int 0, .int 0, .int 0, .int 0, .int 0, .int 0, .null, .int 0, .null, .int 0, .int 0, .int 0, .int 0, .int 0, .int 0])), (q1, .inl (k2, 400, .inl (fun _ => 0)))] H := hP
  have hD : va_D A [(re, .inr (2, [.ref q1, .int 0, .int 0, .int 0, .int 0, .int 0, .int 0, .null, .int 0, .null, .int 0, .int 0, .int 0, .int 0, .int 0, .int 0])), (q1, .inl (k2, 400, .inl (fun _ => 0)))] := hD
  refine lv_aload_n hx hb dX2_init_13 rfl (lv_at hl 0 rfl) ?_
  refine lv_iconst (v := (-1)) hx hb dX2_init_14 (by decide) ?_
  refine va_put (D := (dC, dI)) (ci := 2) (v := .int (-1)) (ty := .int) (C := RX2) (T := TX2) (N := 16) hx hb hts hfX2 tyX2 tyX2_ok nmX2 hown hK hP hD hS 0 rfl rfl 2 (by decide) (hts (.fieldLink RX2 15 "ColdShips$Reader" "faultAt" "I") (by decide +kernel)) (fun _ h9 => h9) rfl (by decide +kernel) rfl rfl (Nat.le_of_ble_eq_true rfl) dX2_init_15 (fun H locs hP hD hS => ?_)
  have hP : va_P (dC, dI) vwCl [(re, .inr (2, [.ref q1, .int 0, .int (-1), .int 0, .int 0, .int 0, .int 0, .null, .int 0, .null, .int 0, .int 0, .int 0, .int 0, .int 0, .int 0])), (q1, .inl (k2, 400, .inl (fun _ => 0)))] H := hP
  have hD : va_D A [(re, .inr (2, [.ref q1, .int 0, .int (-1), .int 0, .int 0, .int 0, .int 0, .null, .int 0, .null, .int 0, .int 0, .int 0, .int 0, .int 0, .int 0])), (q1, .inl (k2, 400, .inl (fun _ => 0)))] := hD
  refine lv_aload_n hx hb dX2_init_18 rfl (lv_at hl 0 rfl) ?_
  refine lv_sipush (v := 400) hx hb dX2_init_19 (by decide) ?_
  refine va_newa (atype := .int) hx hb (hts (.arrayClass .int) (by decide +kernel)) (ty := .int) rfl hK hP hD hS hA (a0 := (400, .inl (fun _ => 0))) (fun cA => pz_na_int cA 400) (by decide +kernel : ¬ (400 : Int32) < 0) (by decide +kernel : (400 : Int32).toNatClampNeg = 400) (by decide +kernel) (Nat.le_of_ble_eq_true rfl) (Nat.le_of_ble_eq_true rfl) dX2_init_22 (fun q3 k4 H hK hP hD hS => ?_)
  have hP : va_P (dC, dI) vwCl [(re, .inr (2, [.ref q1, .int 0, .int (-1), .int 0, .int 0, .int 0, .int 0, .null, .int 0, .null, .int 0, .int 0, .int 0, .int 0, .int 0, .int 0])), (q1, .inl (k2, 400, .inl (fun _ => 0))), (q3, .inl (k4, 400, .inl (fun _ => 0)))] H := hP
  have hD : va_D A [(re, .inr (2, [.ref q1, .int 0, .int (-1), .int 0, .int 0, .int 0, .int 0, .null, .int 0, .null, .int 0, .int 0, .int 0, .int 0, .int 0, .int 0])), (q1, .inl (k2, 400, .inl (fun _ => 0))), (q3, .inl (k4, 400, .inl (fun _ => 0)))] := hD
  have hK : va_K (dC, dI) vwCl [(k2, .char), (k4, .int)] s := hK
  refine va_putF (D := (dC, dI)) (ci := 2) (v := .ref q3) (ty := (.array .int)) (C := RX2) (T := TX2) (N := 16) hx hb hts hfX2 tyX2 tyX2_ok nmX2 hown hK hP hD hS 0 rfl rfl 7 (by decide) (hts (.fieldLink RX2 19 "ColdShips$Reader" "code" "[I") (by decide +kernel)) (fun _ h9 => h9) rfl hin rfl (by decide +kernel) rfl rfl (Nat.le_of_ble_eq_true rfl) dX2_init_24 (fun H locs hP hD hS => ?_)
  have hP : va_P (dC, dI) vwCl [(re, .inr (2, [.ref q1, .int 0, .int (-1), .int 0, .int 0, .int 0, .int 0, .ref q3, .int 0, .null, .int 0, .int 0, .int 0, .int 0, .int 0, .int 0])), (q1, .inl (k2, 400, .inl (fun _ => 0))), (q3, .inl (k4, 400, .inl (fun _ => 0)))] H := hP
  have hD : va_D A [(re, .inr (2, [.ref q1, .int 0, .int (-1), .int 0, .int 0, .int 0, .int 0, .ref q3, .int 0, .null, .int 0, .int 0, .int 0, .int 0, .int 0, .int 0])), (q1, .inl (k2, 400, .inl (fun _ => 0))), (q3, .inl (k4, 400, .inl (fun _ => 0)))] := hD
  refine lv_aload_n hx hb dX2_init_27 rfl (lv_at hl 0 rfl) ?_
  refine lv_bipush (v := 13) hx hb dX2_init_28 (by decide) ?_
  refine va_newa (atype := .int) hx hb (hts (.arrayClass .int) (by decide +kernel)) (ty := .int) rfl hK hP hD hS hA (a0 := (13, .inl (fun _ => 0))) (fun cA => pz_na_int cA 13) (by decide +kernel : ¬ (13 : Int32) < 0) (by decide +kernel : (13 : Int32).toNatClampNeg = 13) (by decide +kernel) (Nat.le_of_ble_eq_true rfl) (Nat.le_of_ble_eq_true rfl) dX2_init_30 (fun q5 k6 H hK hP hD hS => ?_)
  have hP : va_P (dC, dI) vwCl [(re, .inr (2, [.ref q1, .int 0, .int (-1), .int 0, .int 0, .int 0, .int 0, .ref q3, .int 0, .null, .int 0, .int 0, .int 0, .int 0, .int 0, .int 0])), (q1, .inl (k2, 400, .inl (fun _ => 0))), (q3, .inl (k4, 400, .inl (fun _ => 0))), (q5, .inl (k6, 13, .inl (fun _ => 0)))] H := hP
  have hD : va_D A [(re, .inr (2, [.ref q1, .int 0, .int (-1), .int 0, .int 0, .int 0, .int 0, .ref q3, .int 0, .null, .int 0, .int 0, .int 0, .int 0, .int 0, .int 0])), (q1, .inl (k2, 400, .inl (fun _ => 0))), (q3, .inl (k4, 400, .inl (fun _ => 0))), (q5, .inl (k6, 13, .inl (fun _ => 0)))] := hD
  have hK : va_K (dC, dI) vwCl [(k2, .char), (k4, .int), (k6, .int)] s := hK
  refine va_putF (D := (dC, dI)) (ci := 2) (v := .ref q5) (ty := (.array .int)) (C := RX2) (T := TX2) (N := 16) hx hb hts hfX2 tyX2 tyX2_ok nmX2 hown hK hP hD hS 0 rfl rfl 9 (by decide) (hts (.fieldLink RX2 23 "ColdShips$Reader" "starts" "[I") (by decide +kernel)) (fun _ h9 => h9) rfl hin rfl (by decide +kernel) rfl rfl (Nat.le_of_ble_eq_true rfl) dX2_init_32 (fun H locs hP hD hS => ?_)
  have hP : va_P (dC, dI) vwCl [(re, .inr (2, [.ref q1, .int 0, .int (-1), .int 0, .int 0, .int 0, .int 0, .ref q3, .int 0, .ref q5, .int 0, .int 0, .int 0, .int 0, .int 0, .int 0])), (q1, .inl (k2, 400, .inl (fun _ => 0))), (q3, .inl (k4, 400, .inl (fun _ => 0))), (q5, .inl (k6, 13, .inl (fun _ => 0)))] H := hP
  have hD : va_D A [(re, .inr (2, [.ref q1, .int 0, .int (-1), .int 0, .int 0, .int 0, .int 0, .ref q3, .int 0, .ref q5, .int 0, .int 0, .int 0, .int 0, .int 0, .int 0])), (q1, .inl (k2, 400, .inl (fun _ => 0))), (q3, .inl (k4, 400, .inl (fun _ => 0))), (q5, .inl (k6, 13, .inl (fun _ => 0)))] := hD
  have hP9 := hP.sub (ws' := [(re, .inr (2, [.ref q1, .int 0, .int (-1), .int 0, .int 0, .int 0, .int 0, .ref q3, .int 0, .ref q5, .int 0, .int 0, .int 0, .int 0, .int 0, .int 0])), (q1, .inl (k2, 400, .inl (fun _ => 0)))]) [0, 1] rfl
  have hD9 := hD.sub (ws' := [(re, .inr (2, [.ref q1, .int 0, .int (-1), .int 0, .int 0, .int 0, .int 0, .ref q3, .int 0, .ref q5, .int 0, .int 0, .int 0, .int 0, .int 0, .int 0])), (q1, .inl (k2, 400, .inl (fun _ => 0)))]) [0, 1] (by decide +kernel) rfl
  have hK9 := hK.sub (tys' := [(k2, .char)]) [0] rfl
  exact W.vret hx hb hr (fun t ht hW => ⟨⟨(), rfl, trivial, ⟨q1, q3, q5, k2, by rw [ht]; exact hP9, va_K.moved hW.alike hK9, hD9⟩⟩, hS.F ht⟩) hS.2.2 dX2_init_35
set_option maxHeartbeats 4000000 in
set_option maxRecDepth 100000 in
theorem c_X3_init (l : Launch) (dC : Nat → ClassId) (dI : Nat → Nat → Nat) (sz : Nat) (rk : Nat) (wd : Nat)  : Met l yX3_init wsX3_init ({ frames := 3, cells := 2, slots := 72, locals := 800 }) (va_Pc [.ref rk, .ref wd] (pz_B dC dI [] [(rk, .inr (3, [.null, .null, .null, .int 0, .long 0, .long 0]))] sz)) (va_Qv (fun (_ : Unit) => True) (fun (_ : Unit) (_ : State) => True) (va_A [(rk, .inr (3, [.null, .null, .null, .int 0, .long 0, .long 0]))] sz)) 2 72 (va_A [(rk, .inr (3, [.null, .null, .null, .int 0, .long 0, .long 0]))] sz) := by
  refine Met.ofW (cc := cX3_init) (maxL := 2) (ret := none) (by decide) rfl ?_
  intro p e s m args below meth c s₁ B hml hv
  obtain ⟨rfl, hsz, hP, hK, hD0, hN⟩ := hv
  have hx := B.exec
  have hb := B.bytes
  have hr := B.returns
  have hts := atoms_spec (ws := wsX3_init) B.pre
  have hown : s.vm.findClass RX3 = some m.cls := findClass_of_methodNamed B.named
  have hlocks := B.notSynchronized
  have hin : meth.name = "<init>" := (name_of_methodNamed B.named B.method).1
  subst hsz
  have hD := hD0.self (sz := s.heap.size)
  generalize hAe : va_A [(rk, .inr (3, [.null, .null, .null, .int 0, .long 0, .long 0]))] s.heap.size = A at hD ⊢
  have hA : ∀ q : Nat, s.heap.size ≤ q → A q := fun q h => by rw [← hAe]; exact Or.inr h
  have hS : va_S A s.heap s.heap [] := va_S.rf
  have hl := lv_entry ([.ref rk, .ref wd]) (n := 2) (Nat.le_of_ble_eq_true rfl)
  rw [lg_entry_eq]
  generalize (lg_sl ([.ref rk, .ref wd]) ++ List.replicate (2 - (lg_sl ([.ref rk, .ref wd])).length) Slot.unset).toArray = ls at hl ⊢
  have hl : lv_has ls 2 [(0, .ref rk), (1, .ref wd)] := hl
  have hfX3 : ∀ w ∈ wsX30, w ∈ wsX3_init := fun w h => List.mem_cons_of_mem _ (List.mem_append_right _ h)
  refine lv_aload_n hx hb dX3_init_0 rfl (lv_at hl 0 rfl) ?_
  refine W.objInit hx hb hown (hts (.methodLink RX3 3 objectInit) (by decide +kernel)) (hts (.instanceMethod objectInit) (by decide +kernel)) (hts (.code objectInit ⟨#[0xb1]⟩ 1 none) (by decide +kernel)) rfl (by rw [hml]; exact hl.1) rfl dX3_init_1 (Nat.le_of_ble_eq_true rfl) (Nat.le_of_ble_eq_true rfl) ?_
  refine W.eq (g2 := F0 m 4 ls []) rfl ?_
  refine lv_aload_n hx hb dX3_init_4 rfl (lv_at hl 0 rfl) ?_
  refine lv_bipush (v := 8) hx hb dX3_init_5 (by decide) ?_
  refine va_newa (atype := .long) hx hb (hts (.arrayClass .long) (by decide +kernel)) (ty := .long) rfl hK hP hD hS hA (a0 := (8, .inr (.inl (fun _ => 0)))) (fun cA => pz_na_long cA 8) (by decide +kernel : ¬ (8 : Int32) < 0) (by decide +kernel : (8 : Int32).toNatClampNeg = 8) (by decide +kernel) (Nat.le_of_ble_eq_true rfl) (Nat.le_of_ble_eq_true rfl) dX3_init_7 (fun q1 k2 H hK hP hD hS => ?_)
  have hP : va_P (dC, dI) vwCl [(rk, .inr (3, [.null, .null, .null, .int 0, .long 0, .long 0])), (q1, .inl (k2, 8, .inr (.inl (fun _ => 0))))] H := hP
  have hD : va_D A [(rk, .inr (3, [.null, .null, .null, .int 0, .long 0, .long 0])), (q1, .inl (k2, 8, .inr (.inl (fun _ => 0))))] := hD
  have hK : va_K (dC, dI) vwCl [(k2, .long)] s := hK
  refine va_putF (D := (dC, dI)) (ci := 3) (v := .ref q1) (ty := (.array .long)) (C := RX3) (T := TX3) (N := 6) hx hb hts hfX3 tyX3 tyX3_ok nmX3 hown hK hP hD hS 0 rfl rfl 1 (by decide) (hts (.fieldLink RX3 9 "ColdShips$Reckoner" "facts" "[J") (by decide +kernel)) (fun _ h9 => h9) rfl hin rfl (by decide +kernel) rfl rfl (Nat.le_of_ble_eq_true rfl) dX3_init_9 (fun H locs hP hD hS => ?_)
  have hP : va_P (dC, dI) vwCl [(rk, .inr (3, [.null, .ref q1, .null, .int 0, .long 0, .long 0])), (q1, .inl (k2, 8, .inr (.inl (fun _ => 0))))] H := hP
  have hD : va_D A [(rk, .inr (3, [.null, .ref q1, .null, .int 0, .long 0, .long 0])), (q1, .inl (k2, 8, .inr (.inl (fun _ => 0))))] := hD
  refine lv_aload_n hx hb dX3_init_12 rfl (lv_at hl 0 rfl) ?_
  refine lv_bipush (v := 64) hx hb dX3_init_13 (by decide) ?_
  refine va_newa (atype := .long) hx hb (hts (.arrayClass .long) (by decide +kernel)) (ty := .long) rfl hK hP hD hS hA (a0 := (64, .inr (.inl (fun _ => 0)))) (fun cA => pz_na_long cA 64) (by decide +kernel : ¬ (64 : Int32) < 0) (by decide +kernel : (64 : Int32).toNatClampNeg = 64) (by decide +kernel) (Nat.le_of_ble_eq_true rfl) (Nat.le_of_ble_eq_true rfl) dX3_init_15 (fun q3 k4 H hK hP hD hS => ?_)
  have hP : va_P (dC, dI) vwCl [(rk, .inr (3, [.null, .ref q1, .null, .int 0, .long 0, .long 0])), (q1, .inl (k2, 8, .inr (.inl (fun _ => 0)))), (q3, .inl (k4, 64, .inr (.inl (fun _ => 0))))] H := hP
  have hD : va_D A [(rk, .inr (3, [.null, .ref q1, .null, .int 0, .long 0, .long 0])), (q1, .inl (k2, 8, .inr (.inl (fun _ => 0)))), (q3, .inl (k4, 64, .inr (.inl (fun _ => 0))))] := hD
  have hK : va_K (dC, dI) vwCl [(k2, .long), (k4, .long)] s := hK
  refine va_putF (D := (dC, dI)) (ci := 3) (v := .ref q3) (ty := (.array .long)) (C := RX3) (T := TX3) (N := 6) hx hb hts hfX3 tyX3 tyX3_ok nmX3 hown hK hP hD hS 0 rfl rfl 2 (by decide) (hts (.fieldLink RX3 15 "ColdShips$Reckoner" "stack" "[J") (by decide +kernel)) (fun _ h9 => h9) rfl hin rfl (by decide +kernel) rfl rfl (Nat.le_of_ble_eq_true rfl) dX3_init_17 (fun H locs hP hD hS => ?_)
  have hP : va_P (dC, dI) vwCl [(rk, .inr (3, [.null, .ref q1, .ref q3, .int 0, .long 0, .long 0])), (q1, .inl (k2, 8, .inr (.inl (fun _ => 0)))), (q3, .inl (k4, 64, .inr (.inl (fun _ => 0))))] H := hP
  have hD : va_D A [(rk, .inr (3, [.null, .ref q1, .ref q3, .int 0, .long 0, .long 0])), (q1, .inl (k2, 8, .inr (.inl (fun _ => 0)))), (q3, .inl (k4, 64, .inr (.inl (fun _ => 0))))] := hD
  refine lv_aload_n hx hb dX3_init_20 rfl (lv_at hl 0 rfl) ?_
  refine lv_aload_n hx hb dX3_init_21 rfl (lv_at hl 1 rfl) ?_
  refine va_putF (D := (dC, dI)) (ci := 3) (v := .ref wd) (ty := (.object "ColdShips$World")) (C := RX3) (T := TX3) (N := 6) hx hb hts hfX3 tyX3 tyX3_ok nmX3 hown hK hP hD hS 0 rfl rfl 0 (by decide) (hts (.fieldLink RX3 18 "ColdShips$Reckoner" "world" "LColdShips$World;") (by decide +kernel)) (fun _ h9 => h9) rfl hin rfl (by decide +kernel) rfl rfl (Nat.le_of_ble_eq_true rfl) dX3_init_22 (fun H locs hP hD hS => ?_)
  have hP : va_P (dC, dI) vwCl [(rk, .inr (3, [.ref wd, .ref q1, .ref q3, .int 0, .long 0, .long 0])), (q1, .inl (k2, 8, .inr (.inl (fun _ => 0)))), (q3, .inl (k4, 64, .inr (.inl (fun _ => 0))))] H := hP
  have hD : va_D A [(rk, .inr (3, [.ref wd, .ref q1, .ref q3, .int 0, .long 0, .long 0])), (q1, .inl (k2, 8, .inr (.inl (fun _ => 0)))), (q3, .inl (k4, 64, .inr (.inl (fun _ => 0))))] := hD
  exact W.vret hx hb hr (fun t ht hW => ⟨⟨(), rfl, trivial, trivial⟩, hS.F ht⟩) hS.2.2 dX3_init_25
set_option maxHeartbeats 4000000 in
set_option maxRecDepth 100000 in
theorem c_X1_init (l : Launch) (dC : Nat → ClassId) (dI : Nat → Nat → Nat) (sz : Nat) (pl : Nat) (wd : Nat)  : Met l yX1_init wsX1_init ({ frames := 3, cells := 9, slots := 542, locals := 800 }) (va_Pc [.ref pl, .ref wd] (pz_B dC dI [] [(pl, .inr (1, [.null, .null, .null, .null, .null, .int 0, .int 0, .int 0, .long 0, .int 0, .null, .null, .null, .null, .null]))] sz)) (va_Qv (fun (_ : Unit) => True) (fun (_ : Unit) (t : State) => ∃ pp0 : Nat, ∃ pp1 : Nat, ∃ plw : Nat, ∃ pls : Nat, ∃ pq0 : Nat, ∃ pq1 : Nat, ∃ pq2 : Nat, ∃ pq3 : Nat, ∃ pq4 : Nat, ∃ kL : ClassId, ∃ kN : ClassId, pz_E dC dI [(kL, .long), (kN, .int)] (va_A [(pl, .inr (1, [.null, .null, .null, .null, .null, .int 0, .int 0, .int 0, .long 0, .int 0, .null, .null, .null, .null, .null]))] sz) [(pl, .inr (1, [.ref wd, .ref pp0, .ref pp1, .ref plw, .ref pls, .int 0, .int 0, .int 0, .long 0, .int 0, .ref pq0, .ref pq1, .ref pq2, .ref pq3, .ref pq4])), (plw, .inl (kL, 64, .inr (.inl (fun _ => 0)))), (pls, .inl (kN, 64, .inl (fun _ => 0)))] t) (va_A [(pl, .inr (1, [.null, .null, .null, .null, .null, .int 0, .int 0, .int 0, .long 0, .int 0, .null, .null, .null, .null, .null]))] sz)) 9 542 (va_A [(pl, .inr (1, [.null, .null, .null, .null, .null, .int 0, .int 0, .int 0, .long 0, .int 0, .null, .null, .null, .null, .null]))] sz) := by
  refine Met.ofW (cc := cX1_init) (maxL := 2) (ret := none) (by decide) rfl ?_
  intro p e s m args below meth c s₁ B hml hv
  obtain ⟨rfl, hsz, hP, hK, hD0, hN⟩ := hv
  have hx := B.exec
  have hb := B.bytes
  have hr := B.returns
  have hts := atoms_spec (ws := wsX1_init) B.pre
  have hown : s.vm.findClass RX1 = some m.cls := findClass_of_methodNamed B.named
  have hlocks := B.notSynchronized
  have hin : meth.name = "<init>" := (name_of_methodNamed B.named B.method).1
  subst hsz
  have hD := hD0.self (sz := s.heap.size)
  generalize hAe : va_A [(pl, .inr (1, [.null, .null, .null, .null, .null, .int 0, .int 0, .int 0, .long 0, .int 0, .null, .null, .null, .null, .null]))] s.heap.size = A at hD ⊢
  have hA : ∀ q : Nat, s.heap.size ≤ q → A q := fun q h => by rw [← hAe]; exact Or.inr h
  have hS : va_S A s.heap s.heap [] := va_S.rf
  have hl := lv_entry ([.ref pl, .ref wd]) (n := 2) (Nat.le_of_ble_eq_true rfl)
  rw [lg_entry_eq]
  generalize (lg_sl ([.ref pl, .ref wd]) ++ List.replicate (2 - (lg_sl ([.ref pl, .ref wd])).length) Slot.unset).toArray = ls at hl ⊢
  have hl : lv_has ls 2 [(0, .ref pl), (1, .ref wd)] := hl
  have hfX1 : ∀ w ∈ wsX10, w ∈ wsX1_init := fun w h => List.mem_cons_of_mem _ (List.mem_append_right _ h)
  refine lv_aload_n hx hb dX1_init_0 rfl (lv_at hl 0 rfl) ?_
  refine W.objInit hx hb hown (hts (.methodLink RX1 3 objectInit) (by decide +kernel)) (hts (.instanceMethod objectInit) (by decide +kernel)) (hts (.code objectInit ⟨#[0xb1]⟩ 1 none) (by decide +kernel)) rfl (by rw [hml]; exact hl.1) rfl dX1_init_1 (Nat.le_of_ble_eq_true rfl) (Nat.le_of_ble_eq_true rfl) ?_
  refine W.eq (g2 := F0 m 4 ls []) rfl ?_
  refine lv_aload_n hx hb dX1_init_4 rfl (lv_at hl 0 rfl) ?_
  refine lv_sipush (v := 192) hx hb dX1_init_5 (by decide) ?_
  refine va_newa (atype := .long) hx hb (hts (.arrayClass .long) (by decide +kernel)) (ty := .long) rfl hK hP hD hS hA (a0 := (192, .inr (.inl (fun _ => 0)))) (fun cA => pz_na_long cA 192) (by decide +kernel : ¬ (192 : Int32) < 0) (by decide +kernel : (192 : Int32).toNatClampNeg = 192) (by decide +kernel) (Nat.le_of_ble_eq_true rfl) (Nat.le_of_ble_eq_true rfl) dX1_init_8 (fun q1 k2 H hK hP hD hS => ?_)
  have hP : va_P (dC, dI) vwCl [(pl, .inr (1, [.null, .null, .null, .null, .null, .int 0, .int 0, .int 0, .long 0, .int 0, .null, .null, .null, .null, .null])), (q1, .inl (k2, 192, .inr (.inl (fun _ => 0))))] H := hP
  have hD : va_D A [(pl, .inr (1, [.null, .null, .null, .null, .null, .int 0, .int 0, .int 0, .long 0, .int 0, .null, .null, .null, .null, .null])), (q1, .inl (k2, 192, .inr (.inl (fun _ => 0))))] := hD
  have hK : va_K (dC, dI) vwCl [(k2, .long)] s := hK
  refine va_putF (D := (dC, dI)) (ci := 1) (v := .ref q1) (ty := (.array .long)) (C := RX1) (T := TX1) (N := 15) hx hb hts hfX1 tyX1 tyX1_ok nmX1 hown hK hP hD hS 0 rfl rfl 1 (by decide) (hts (.fieldLink RX1 11 "ColdShips$Planner" "rowWorths" "[J") (by decide +kernel)) (fun _ h9 => h9) rfl hin rfl (by decide +kernel) rfl rfl (Nat.le_of_ble_eq_true rfl) dX1_init_10 (fun H locs hP hD hS => ?_)
  have hP : va_P (dC, dI) vwCl [(pl, .inr (1, [.null, .ref q1, .null, .null, .null, .int 0, .int 0, .int 0, .long 0, .int 0, .null, .null, .null, .null, .null])), (q1, .inl (k2, 192, .inr (.inl (fun _ => 0))))] H := hP
  have hD : va_D A [(pl, .inr (1, [.null, .ref q1, .null, .null, .null, .int 0, .int 0, .int 0, .long 0, .int 0, .null, .null, .null, .null, .null])), (q1, .inl (k2, 192, .inr (.inl (fun _ => 0))))] := hD
  refine lv_aload_n hx hb dX1_init_13 rfl (lv_at hl 0 rfl) ?_
  refine lv_sipush (v := 192) hx hb dX1_init_14 (by decide) ?_
  refine va_newa (atype := .int) hx hb (hts (.arrayClass .int) (by decide +kernel)) (ty := .int) rfl hK hP hD hS hA (a0 := (192, .inl (fun _ => 0))) (fun cA => pz_na_int cA 192) (by decide +kernel : ¬ (192 : Int32) < 0) (by decide +kernel : (192 : Int32).toNatClampNeg = 192) (by decide +kernel) (Nat.le_of_ble_eq_true rfl) (Nat.le_of_ble_eq_true rfl) dX1_init_17 (fun q3 k4 H hK hP hD hS => ?_)
  have hP : va_P (dC, dI) vwCl [(pl, .inr (1, [.null, .ref q1, .null, .null, .null, .int 0, .int 0, .int 0, .long 0, .int 0, .null, .null, .null, .null, .null])), (q1, .inl (k2, 192, .inr (.inl (fun _ => 0)))), (q3, .inl (k4, 192, .inl (fun _ => 0)))] H := hP
  have hD : va_D A [(pl, .inr (1, [.null, .ref q1, .null, .null, .null, .int 0, .int 0, .int 0, .long 0, .int 0, .null, .null, .null, .null, .null])), (q1, .inl (k2, 192, .inr (.inl (fun _ => 0)))), (q3, .inl (k4, 192, .inl (fun _ => 0)))] := hD
  have hK : va_K (dC, dI) vwCl [(k2, .long), (k4, .int)] s := hK
  refine va_putF (D := (dC, dI)) (ci := 1) (v := .ref q3) (ty := (.array .int)) (C := RX1) (T := TX1) (N := 15) hx hb hts hfX1 tyX1 tyX1_ok nmX1 hown hK hP hD hS 0 rfl rfl 2 (by decide) (hts (.fieldLink RX1 15 "ColdShips$Planner" "rowPlaces" "[I") (by decide +kernel)) (fun _ h9 => h9) rfl hin rfl (by decide +kernel) rfl rfl (Nat.le_of_ble_eq_true rfl) dX1_init_19 (fun H locs hP hD hS => ?_)
  have hP : va_P (dC, dI) vwCl [(pl, .inr (1, [.null, .ref q1, .ref q3, .null, .null, .int 0, .int 0, .int 0, .long 0, .int 0, .null, .null, .null, .null, .null])), (q1, .inl (k2, 192, .inr (.inl (fun _ => 0)))), (q3, .inl (k4, 192, .inl (fun _ => 0)))] H := hP
  have hD : va_D A [(pl, .inr (1, [.null, .ref q1, .ref q3, .null, .null, .int 0, .int 0, .int 0, .long 0, .int 0, .null, .null, .null, .null, .null])), (q1, .inl (k2, 192, .inr (.inl (fun _ => 0)))), (q3, .inl (k4, 192, .inl (fun _ => 0)))] := hD
  refine lv_aload_n hx hb dX1_init_22 rfl (lv_at hl 0 rfl) ?_
  refine lv_bipush (v := 64) hx hb dX1_init_23 (by decide) ?_
  refine va_newa (atype := .long) hx hb (hts (.arrayClass .long) (by decide +kernel)) (ty := .long) rfl hK hP hD hS hA (a0 := (64, .inr (.inl (fun _ => 0)))) (fun cA => pz_na_long cA 64) (by decide +kernel : ¬ (64 : Int32) < 0) (by decide +kernel : (64 : Int32).toNatClampNeg = 64) (by decide +kernel) (Nat.le_of_ble_eq_true rfl) (Nat.le_of_ble_eq_true rfl) dX1_init_25 (fun q5 k6 H hK hP hD hS => ?_)
  have hP : va_P (dC, dI) vwCl [(pl, .inr (1, [.null, .ref q1, .ref q3, .null, .null, .int 0, .int 0, .int 0, .long 0, .int 0, .null, .null, .null, .null, .null])), (q1, .inl (k2, 192, .inr (.inl (fun _ => 0)))), (q3, .inl (k4, 192, .inl (fun _ => 0))), (q5, .inl (k6, 64, .inr (.inl (fun _ => 0))))] H := hP
  have hD : va_D A [(pl, .inr (1, [.null, .ref q1, .ref q3, .null, .null, .int 0, .int 0, .int 0, .long 0, .int 0, .null, .null, .null, .null, .null])), (q1, .inl (k2, 192, .inr (.inl (fun _ => 0)))), (q3, .inl (k4, 192, .inl (fun _ => 0))), (q5, .inl (k6, 64, .inr (.inl (fun _ => 0))))] := hD
  have hK : va_K (dC, dI) vwCl [(k2, .long), (k4, .int), (k6, .long)] s := hK
  refine va_putF (D := (dC, dI)) (ci := 1) (v := .ref q5) (ty := (.array .long)) (C := RX1) (T := TX1) (N := 15) hx hb hts hfX1 tyX1 tyX1_ok nmX1 hown hK hP hD hS 0 rfl rfl 3 (by decide) (hts (.fieldLink RX1 19 "ColdShips$Planner" "setWorths" "[J") (by decide +kernel)) (fun _ h9 => h9) rfl hin rfl (by decide +kernel) rfl rfl (Nat.le_of_ble_eq_true rfl) dX1_init_27 (fun H locs hP hD hS => ?_)
  have hP : va_P (dC, dI) vwCl [(pl, .inr (1, [.null, .ref q1, .ref q3, .ref q5, .null, .int 0, .int 0, .int 0, .long 0, .int 0, .null, .null, .null, .null, .null])), (q1, .inl (k2, 192, .inr (.inl (fun _ => 0)))), (q3, .inl (k4, 192, .inl (fun _ => 0))), (q5, .inl (k6, 64, .inr (.inl (fun _ => 0))))] H := hP
  have hD : va_D A [(pl, .inr (1, [.null, .ref q1, .ref q3, .ref q5, .null, .int 0, .int 0, .int 0, .long 0, .int 0, .null, .null, .null, .null, .null])), (q1, .inl (k2, 192, .inr (.inl (fun _ => 0)))), (q3, .inl (k4, 192, .inl (fun _ => 0))), (q5, .inl (k6, 64, .inr (.inl (fun _ => 0))))] := hD
  refine lv_aload_n hx hb dX1_init_30 rfl (lv_at hl 0 rfl) ?_
  refine lv_bipush (v := 64) hx hb dX1_init_31 (by decide) ?_
  refine va_newa (atype := .int) hx hb (hts (.arrayClass .int) (by decide +kernel)) (ty := .int) rfl hK hP hD hS hA (a0 := (64, .inl (fun _ => 0))) (fun cA => pz_na_int cA 64) (by decide +kernel : ¬ (64 : Int32) < 0) (by decide +kernel : (64 : Int32).toNatClampNeg = 64) (by decide +kernel) (Nat.le_of_ble_eq_true rfl) (Nat.le_of_ble_eq_true rfl) dX1_init_33 (fun q7 k8 H hK hP hD hS => ?_)
  have hP : va_P (dC, dI) vwCl [(pl, .inr (1, [.null, .ref q1, .ref q3, .ref q5, .null, .int 0, .int 0, .int 0, .long 0, .int 0, .null, .null, .null, .null, .null])), (q1, .inl (k2, 192, .inr (.inl (fun _ => 0)))), (q3, .inl (k4, 192, .inl (fun _ => 0))), (q5, .inl (k6, 64, .inr (.inl (fun _ => 0)))), (q7, .inl (k8, 64, .inl (fun _ => 0)))] H := hP
  have hD : va_D A [(pl, .inr (1, [.null, .ref q1, .ref q3, .ref q5, .null, .int 0, .int 0, .int 0, .long 0, .int 0, .null, .null, .null, .null, .null])), (q1, .inl (k2, 192, .inr (.inl (fun _ => 0)))), (q3, .inl (k4, 192, .inl (fun _ => 0))), (q5, .inl (k6, 64, .inr (.inl (fun _ => 0)))), (q7, .inl (k8, 64, .inl (fun _ => 0)))] := hD
  have hK : va_K (dC, dI) vwCl [(k2, .long), (k4, .int), (k6, .long), (k8, .int)] s := hK
  refine va_putF (D := (dC, dI)) (ci := 1) (v := .ref q7) (ty := (.array .int)) (C := RX1) (T := TX1) (N := 15) hx hb hts hfX1 tyX1 tyX1_ok nmX1 hown hK hP hD hS 0 rfl rfl 4 (by decide) (hts (.fieldLink RX1 22 "ColdShips$Planner" "setShips" "[I") (by decide +kernel)) (fun _ h9 => h9) rfl hin rfl (by decide +kernel) rfl rfl (Nat.le_of_ble_eq_true rfl) dX1_init_35 (fun H locs hP hD hS => ?_)
  have hP : va_P (dC, dI) vwCl [(pl, .inr (1, [.null, .ref q1, .ref q3, .ref q5, .ref q7, .int 0, .int 0, .int 0, .long 0, .int 0, .null, .null, .null, .null, .null])), (q1, .inl (k2, 192, .inr (.inl (fun _ => 0)))), (q3, .inl (k4, 192, .inl (fun _ => 0))), (q5, .inl (k6, 64, .inr (.inl (fun _ => 0)))), (q7, .inl (k8, 64, .inl (fun _ => 0)))] H := hP
  have hD : va_D A [(pl, .inr (1, [.null, .ref q1, .ref q3, .ref q5, .ref q7, .int 0, .int 0, .int 0, .long 0, .int 0, .null, .null, .null, .null, .null])), (q1, .inl (k2, 192, .inr (.inl (fun _ => 0)))), (q3, .inl (k4, 192, .inl (fun _ => 0))), (q5, .inl (k6, 64, .inr (.inl (fun _ => 0)))), (q7, .inl (k8, 64, .inl (fun _ => 0)))] := hD
  refine lv_aload_n hx hb dX1_init_38 rfl (lv_at hl 0 rfl) ?_
  refine lv_bipush (v := 6) hx hb dX1_init_39 (by decide) ?_
  refine va_newa (atype := .int) hx hb (hts (.arrayClass .int) (by decide +kernel)) (ty := .int) rfl hK hP hD hS hA (a0 := (6, .inl (fun _ => 0))) (fun cA => pz_na_int cA 6) (by decide +kernel : ¬ (6 : Int32) < 0) (by decide +kernel : (6 : Int32).toNatClampNeg = 6) (by decide +kernel) (Nat.le_of_ble_eq_true rfl) (Nat.le_of_ble_eq_true rfl) dX1_init_41 (fun q9 k10 H hK hP hD hS => ?_)
  have hP : va_P (dC, dI) vwCl [(pl, .inr (1, [.null, .ref q1, .ref q3, .ref q5, .ref q7, .int 0, .int 0, .int 0, .long 0, .int 0, .null, .null, .null, .null, .null])), (q1, .inl (k2, 192, .inr (.inl (fun _ => 0)))), (q3, .inl (k4, 192, .inl (fun _ => 0))), (q5, .inl (k6, 64, .inr (.inl (fun _ => 0)))), (q7, .inl (k8, 64, .inl (fun _ => 0))), (q9, .inl (k10, 6, .inl (fun _ => 0)))] H := hP
  have hD : va_D A [(pl, .inr (1, [.null, .ref q1, .ref q3, .ref q5, .ref q7, .int 0, .int 0, .int 0, .long 0, .int 0, .null, .null, .null, .null, .null])), (q1, .inl (k2, 192, .inr (.inl (fun _ => 0)))), (q3, .inl (k4, 192, .inl (fun _ => 0))), (q5, .inl (k6, 64, .inr (.inl (fun _ => 0)))), (q7, .inl (k8, 64, .inl (fun _ => 0))), (q9, .inl (k10, 6, .inl (fun _ => 0)))] := hD
  have hK : va_K (dC, dI) vwCl [(k2, .long), (k4, .int), (k6, .long), (k8, .int), (k10, .int)] s := hK
  refine va_putF (D := (dC, dI)) (ci := 1) (v := .ref q9) (ty := (.array .int)) (C := RX1) (T := TX1) (N := 15) hx hb hts hfX1 tyX1 tyX1_ok nmX1 hown hK hP hD hS 0 rfl rfl 10 (by decide) (hts (.fieldLink RX1 25 "ColdShips$Planner" "shipOf" "[I") (by decide +kernel)) (fun _ h9 => h9) rfl hin rfl (by decide +kernel) rfl rfl (Nat.le_of_ble_eq_true rfl) dX1_init_43 (fun H locs hP hD hS => ?_)
  have hP : va_P (dC, dI) vwCl [(pl, .inr (1, [.null, .ref q1, .ref q3, .ref q5, .ref q7, .int 0, .int 0, .int 0, .long 0, .int 0, .ref q9, .null, .null, .null, .null])), (q1, .inl (k2, 192, .inr (.inl (fun _ => 0)))), (q3, .inl (k4, 192, .inl (fun _ => 0))), (q5, .inl (k6, 64, .inr (.inl (fun _ => 0)))), (q7, .inl (k8, 64, .inl (fun _ => 0))), (q9, .inl (k10, 6, .inl (fun _ => 0)))] H := hP
  have hD : va_D A [(pl, .inr (1, [.null, .ref q1, .ref q3, .ref q5, .ref q7, .int 0, .int 0, .int 0, .long 0, .int 0, .ref q9, .null, .null, .null, .null])), (q1, .inl (k2, 192, .inr (.inl (fun _ => 0)))), (q3, .inl (k4, 192, .inl (fun _ => 0))), (q5, .inl (k6, 64, .inr (.inl (fun _ => 0)))), (q7, .inl (k8, 64, .inl (fun _ => 0))), (q9, .inl (k10, 6, .inl (fun _ => 0)))] := hD
  refine lv_aload_n hx hb dX1_init_46 rfl (lv_at hl 0 rfl) ?_
  refine lv_bipush (v := 6) hx hb dX1_init_47 (by decide) ?_
  refine va_newa (atype := .int) hx hb (hts (.arrayClass .int) (by decide +kernel)) (ty := .int) rfl hK hP hD hS hA (a0 := (6, .inl (fun _ => 0))) (fun cA => pz_na_int cA 6) (by decide +kernel : ¬ (6 : Int32) < 0) (by decide +kernel : (6 : Int32).toNatClampNeg = 6) (by decide +kernel) (Nat.le_of_ble_eq_true rfl) (Nat.le_of_ble_eq_true rfl) dX1_init_49 (fun q11 k12 H hK hP hD hS => ?_)
  have hP : va_P (dC, dI) vwCl [(pl, .inr (1, [.null, .ref q1, .ref q3, .ref q5, .ref q7, .int 0, .int 0, .int 0, .long 0, .int 0, .ref q9, .null, .null, .null, .null])), (q1, .inl (k2, 192, .inr (.inl (fun _ => 0)))), (q3, .inl (k4, 192, .inl (fun _ => 0))), (q5, .inl (k6, 64, .inr (.inl (fun _ => 0)))), (q7, .inl (k8, 64, .inl (fun _ => 0))), (q9, .inl (k10, 6, .inl (fun _ => 0))), (q11, .inl (k12, 6, .inl (fun _ => 0)))] H := hP
  have hD : va_D A [(pl, .inr (1, [.null, .ref q1, .ref q3, .ref q5, .ref q7, .int 0, .int 0, .int 0, .long 0, .int 0, .ref q9, .null, .null, .null, .null])), (q1, .inl (k2, 192, .inr (.inl (fun _ => 0)))), (q3, .inl (k4, 192, .inl (fun _ => 0))), (q5, .inl (k6, 64, .inr (.inl (fun _ => 0)))), (q7, .inl (k8, 64, .inl (fun _ => 0))), (q9, .inl (k10, 6, .inl (fun _ => 0))), (q11, .inl (k12, 6, .inl (fun _ => 0)))] := hD
  have hK : va_K (dC, dI) vwCl [(k2, .long), (k4, .int), (k6, .long), (k8, .int), (k10, .int), (k12, .int)] s := hK
  refine va_putF (D := (dC, dI)) (ci := 1) (v := .ref q11) (ty := (.array .int)) (C := RX1) (T := TX1) (N := 15) hx hb hts hfX1 tyX1 tyX1_ok nmX1 hown hK hP hD hS 0 rfl rfl 11 (by decide) (hts (.fieldLink RX1 28 "ColdShips$Planner" "placeOf" "[I") (by decide +kernel)) (fun _ h9 => h9) rfl hin rfl (by decide +kernel) rfl rfl (Nat.le_of_ble_eq_true rfl) dX1_init_51 (fun H locs hP hD hS => ?_)
  have hP : va_P (dC, dI) vwCl [(pl, .inr (1, [.null, .ref q1, .ref q3, .ref q5, .ref q7, .int 0, .int 0, .int 0, .long 0, .int 0, .ref q9, .ref q11, .null, .null, .null])), (q1, .inl (k2, 192, .inr (.inl (fun _ => 0)))), (q3, .inl (k4, 192, .inl (fun _ => 0))), (q5, .inl (k6, 64, .inr (.inl (fun _ => 0)))), (q7, .inl (k8, 64, .inl (fun _ => 0))), (q9, .inl (k10, 6, .inl (fun _ => 0))), (q11, .inl (k12, 6, .inl (fun _ => 0)))] H := hP
  have hD : va_D A [(pl, .inr (1, [.null, .ref q1, .ref q3, .ref q5, .ref q7, .int 0, .int 0, .int 0, .long 0, .int 0, .ref q9, .ref q11, .null, .null, .null])), (q1, .inl (k2, 192, .inr (.inl (fun _ => 0)))), (q3, .inl (k4, 192, .inl (fun _ => 0))), (q5, .inl (k6, 64, .inr (.inl (fun _ => 0)))), (q7, .inl (k8, 64, .inl (fun _ => 0))), (q9, .inl (k10, 6, .inl (fun _ => 0))), (q11, .inl (k12, 6, .inl (fun _ => 0)))] := hD
  refine lv_aload_n hx hb dX1_init_54 rfl (lv_at hl 0 rfl) ?_
  refine lv_bipush (v := 6) hx hb dX1_init_55 (by decide) ?_
  refine va_newa (atype := .int) hx hb (hts (.arrayClass .int) (by decide +kernel)) (ty := .int) rfl hK hP hD hS hA (a0 := (6, .inl (fun _ => 0))) (fun cA => pz_na_int cA 6) (by decide +kernel : ¬ (6 : Int32) < 0) (by decide +kernel : (6 : Int32).toNatClampNeg = 6) (by decide +kernel) (Nat.le_of_ble_eq_true rfl) (Nat.le_of_ble_eq_true rfl) dX1_init_57 (fun q13 k14 H hK hP hD hS => ?_)
  have hP : va_P (dC, dI) vwCl [(pl, .inr (1, [.null, .ref q1, .ref q3, .ref q5, .ref q7, .int 0, .int 0, .int 0, .long 0, .int 0, .ref q9, .ref q11, .null, .null, .null])), (q1, .inl (k2, 192, .inr (.inl (fun _ => 0)))), (q3, .inl (k4, 192, .inl (fun _ => 0))), (q5, .inl (k6, 64, .inr (.inl (fun _ => 0)))), (q7, .inl (k8, 64, .inl (fun _ => 0))), (q9, .inl (k10, 6, .inl (fun _ => 0))), (q11, .inl (k12, 6, .inl (fun _ => 0))), (q13, .inl (k14, 6, .inl (fun _ => 0)))] H := hP
  have hD : va_D A [(pl, .inr (1, [.null, .ref q1, .ref q3, .ref q5, .ref q7, .int 0, .int 0, .int 0, .long 0, .int 0, .ref q9, .ref q11, .null, .null, .null])), (q1, .inl (k2, 192, .inr (.inl (fun _ => 0)))), (q3, .inl (k4, 192, .inl (fun _ => 0))), (q5, .inl (k6, 64, .inr (.inl (fun _ => 0)))), (q7, .inl (k8, 64, .inl (fun _ => 0))), (q9, .inl (k10, 6, .inl (fun _ => 0))), (q11, .inl (k12, 6, .inl (fun _ => 0))), (q13, .inl (k14, 6, .inl (fun _ => 0)))] := hD
  have hK : va_K (dC, dI) vwCl [(k2, .long), (k4, .int), (k6, .long), (k8, .int), (k10, .int), (k12, .int), (k14, .int)] s := hK
  refine va_putF (D := (dC, dI)) (ci := 1) (v := .ref q13) (ty := (.array .int)) (C := RX1) (T := TX1) (N := 15) hx hb hts hfX1 tyX1 tyX1_ok nmX1 hown hK hP hD hS 0 rfl rfl 12 (by decide) (hts (.fieldLink RX1 31 "ColdShips$Planner" "loadOf" "[I") (by decide +kernel)) (fun _ h9 => h9) rfl hin rfl (by decide +kernel) rfl rfl (Nat.le_of_ble_eq_true rfl) dX1_init_59 (fun H locs hP hD hS => ?_)
  have hP : va_P (dC, dI) vwCl [(pl, .inr (1, [.null, .ref q1, .ref q3, .ref q5, .ref q7, .int 0, .int 0, .int 0, .long 0, .int 0, .ref q9, .ref q11, .ref q13, .null, .null])), (q1, .inl (k2, 192, .inr (.inl (fun _ => 0)))), (q3, .inl (k4, 192, .inl (fun _ => 0))), (q5, .inl (k6, 64, .inr (.inl (fun _ => 0)))), (q7, .inl (k8, 64, .inl (fun _ => 0))), (q9, .inl (k10, 6, .inl (fun _ => 0))), (q11, .inl (k12, 6, .inl (fun _ => 0))), (q13, .inl (k14, 6, .inl (fun _ => 0)))] H := hP
  have hD : va_D A [(pl, .inr (1, [.null, .ref q1, .ref q3, .ref q5, .ref q7, .int 0, .int 0, .int 0, .long 0, .int 0, .ref q9, .ref q11, .ref q13, .null, .null])), (q1, .inl (k2, 192, .inr (.inl (fun _ => 0)))), (q3, .inl (k4, 192, .inl (fun _ => 0))), (q5, .inl (k6, 64, .inr (.inl (fun _ => 0)))), (q7, .inl (k8, 64, .inl (fun _ => 0))), (q9, .inl (k10, 6, .inl (fun _ => 0))), (q11, .inl (k12, 6, .inl (fun _ => 0))), (q13, .inl (k14, 6, .inl (fun _ => 0)))] := hD
  refine lv_aload_n hx hb dX1_init_62 rfl (lv_at hl 0 rfl) ?_
  refine lv_bipush (v := 6) hx hb dX1_init_63 (by decide) ?_
  refine va_newa (atype := .int) hx hb (hts (.arrayClass .int) (by decide +kernel)) (ty := .int) rfl hK hP hD hS hA (a0 := (6, .inl (fun _ => 0))) (fun cA => pz_na_int cA 6) (by decide +kernel : ¬ (6 : Int32) < 0) (by decide +kernel : (6 : Int32).toNatClampNeg = 6) (by decide +kernel) (Nat.le_of_ble_eq_true rfl) (Nat.le_of_ble_eq_true rfl) dX1_init_65 (fun q15 k16 H hK hP hD hS => ?_)
  have hP : va_P (dC, dI) vwCl [(pl, .inr (1, [.null, .ref q1, .ref q3, .ref q5, .ref q7, .int 0, .int 0, .int 0, .long 0, .int 0, .ref q9, .ref q11, .ref q13, .null, .null])), (q1, .inl (k2, 192, .inr (.inl (fun _ => 0)))), (q3, .inl (k4, 192, .inl (fun _ => 0))), (q5, .inl (k6, 64, .inr (.inl (fun _ => 0)))), (q7, .inl (k8, 64, .inl (fun _ => 0))), (q9, .inl (k10, 6, .inl (fun _ => 0))), (q11, .inl (k12, 6, .inl (fun _ => 0))), (q13, .inl (k14, 6, .inl (fun _ => 0))), (q15, .inl (k16, 6, .inl (fun _ => 0)))] H := hP
  have hD : va_D A [(pl, .inr (1, [.null, .ref q1, .ref q3, .ref q5, .ref q7, .int 0, .int 0, .int 0, .long 0, .int 0, .ref q9, .ref q11, .ref q13, .null, .null])), (q1, .inl (k2, 192, .inr (.inl (fun _ => 0)))), (q3, .inl (k4, 192, .inl (fun _ => 0))), (q5, .inl (k6, 64, .inr (.inl (fun _ => 0)))), (q7, .inl (k8, 64, .inl (fun _ => 0))), (q9, .inl (k10, 6, .inl (fun _ => 0))), (q11, .inl (k12, 6, .inl (fun _ => 0))), (q13, .inl (k14, 6, .inl (fun _ => 0))), (q15, .inl (k16, 6, .inl (fun _ => 0)))] := hD
  have hK : va_K (dC, dI) vwCl [(k2, .long), (k4, .int), (k6, .long), (k8, .int), (k10, .int), (k12, .int), (k14, .int), (k16, .int)] s := hK
  refine va_putF (D := (dC, dI)) (ci := 1) (v := .ref q15) (ty := (.array .int)) (C := RX1) (T := TX1) (N := 15) hx hb hts hfX1 tyX1 tyX1_ok nmX1 hown hK hP hD hS 0 rfl rfl 13 (by decide) (hts (.fieldLink RX1 34 "ColdShips$Planner" "landOf" "[I") (by decide +kernel)) (fun _ h9 => h9) rfl hin rfl (by decide +kernel) rfl rfl (Nat.le_of_ble_eq_true rfl) dX1_init_67 (fun H locs hP hD hS => ?_)
  have hP : va_P (dC, dI) vwCl [(pl, .inr (1, [.null, .ref q1, .ref q3, .ref q5, .ref q7, .int 0, .int 0, .int 0, .long 0, .int 0, .ref q9, .ref q11, .ref q13, .ref q15, .null])), (q1, .inl (k2, 192, .inr (.inl (fun _ => 0)))), (q3, .inl (k4, 192, .inl (fun _ => 0))), (q5, .inl (k6, 64, .inr (.inl (fun _ => 0)))), (q7, .inl (k8, 64, .inl (fun _ => 0))), (q9, .inl (k10, 6, .inl (fun _ => 0))), (q11, .inl (k12, 6, .inl (fun _ => 0))), (q13, .inl (k14, 6, .inl (fun _ => 0))), (q15, .inl (k16, 6, .inl (fun _ => 0)))] H := hP
  have hD : va_D A [(pl, .inr (1, [.null, .ref q1, .ref q3, .ref q5, .ref q7, .int 0, .int 0, .int 0, .long 0, .int 0, .ref q9, .ref q11, .ref q13, .ref q15, .null])), (q1, .inl (k2, 192, .inr (.inl (fun _ => 0)))), (q3, .inl (k4, 192, .inl (fun _ => 0))), (q5, .inl (k6, 64, .inr (.inl (fun _ => 0)))), (q7, .inl (k8, 64, .inl (fun _ => 0))), (q9, .inl (k10, 6, .inl (fun _ => 0))), (q11, .inl (k12, 6, .inl (fun _ => 0))), (q13, .inl (k14, 6, .inl (fun _ => 0))), (q15, .inl (k16, 6, .inl (fun _ => 0)))] := hD
  refine lv_aload_n hx hb dX1_init_70 rfl (lv_at hl 0 rfl) ?_
  refine lv_bipush (v := 6) hx hb dX1_init_71 (by decide) ?_
  refine va_newa (atype := .long) hx hb (hts (.arrayClass .long) (by decide +kernel)) (ty := .long) rfl hK hP hD hS hA (a0 := (6, .inr (.inl (fun _ => 0)))) (fun cA => pz_na_long cA 6) (by decide +kernel : ¬ (6 : Int32) < 0) (by decide +kernel : (6 : Int32).toNatClampNeg = 6) (by decide +kernel) (Nat.le_of_ble_eq_true rfl) (Nat.le_of_ble_eq_true rfl) dX1_init_73 (fun q17 k18 H hK hP hD hS => ?_)
  have hP : va_P (dC, dI) vwCl [(pl, .inr (1, [.null, .ref q1, .ref q3, .ref q5, .ref q7, .int 0, .int 0, .int 0, .long 0, .int 0, .ref q9, .ref q11, .ref q13, .ref q15, .null])), (q1, .inl (k2, 192, .inr (.inl (fun _ => 0)))), (q3, .inl (k4, 192, .inl (fun _ => 0))), (q5, .inl (k6, 64, .inr (.inl (fun _ => 0)))), (q7, .inl (k8, 64, .inl (fun _ => 0))), (q9, .inl (k10, 6, .inl (fun _ => 0))), (q11, .inl (k12, 6, .inl (fun _ => 0))), (q13, .inl (k14, 6, .inl (fun _ => 0))), (q15, .inl (k16, 6, .inl (fun _ => 0))), (q17, .inl (k18, 6, .inr (.inl (fun _ => 0))))] H := hP
  have hD : va_D A [(pl, .inr (1, [.null, .ref q1, .ref q3, .ref q5, .ref q7, .int 0, .int 0, .int 0, .long 0, .int 0, .ref q9, .ref q11, .ref q13, .ref q15, .null])), (q1, .inl (k2, 192, .inr (.inl (fun _ => 0)))), (q3, .inl (k4, 192, .inl (fun _ => 0))), (q5, .inl (k6, 64, .inr (.inl (fun _ => 0)))), (q7, .inl (k8, 64, .inl (fun _ => 0))), (q9, .inl (k10, 6, .inl (fun _ => 0))), (q11, .inl (k12, 6, .inl (fun _ => 0))), (q13, .inl (k14, 6, .inl (fun _ => 0))), (q15, .inl (k16, 6, .inl (fun _ => 0))), (q17, .inl (k18, 6, .inr (.inl (fun _ => 0))))] := hD
  have hK : va_K (dC, dI) vwCl [(k2, .long), (k4, .int), (k6, .long), (k8, .int), (k10, .int), (k12, .int), (k14, .int), (k16, .int), (k18, .long)] s := hK
  refine va_putF (D := (dC, dI)) (ci := 1) (v := .ref q17) (ty := (.array .long)) (C := RX1) (T := TX1) (N := 15) hx hb hts hfX1 tyX1 tyX1_ok nmX1 hown hK hP hD hS 0 rfl rfl 14 (by decide) (hts (.fieldLink RX1 37 "ColdShips$Planner" "worthOf" "[J") (by decide +kernel)) (fun _ h9 => h9) rfl hin rfl (by decide +kernel) rfl rfl (Nat.le_of_ble_eq_true rfl) dX1_init_75 (fun H locs hP hD hS => ?_)
  have hP : va_P (dC, dI) vwCl [(pl, .inr (1, [.null, .ref q1, .ref q3, .ref q5, .ref q7, .int 0, .int 0, .int 0, .long 0, .int 0, .ref q9, .ref q11, .ref q13, .ref q15, .ref q17])), (q1, .inl (k2, 192, .inr (.inl (fun _ => 0)))), (q3, .inl (k4, 192, .inl (fun _ => 0))), (q5, .inl (k6, 64, .inr (.inl (fun _ => 0)))), (q7, .inl (k8, 64, .inl (fun _ => 0))), (q9, .inl (k10, 6, .inl (fun _ => 0))), (q11, .inl (k12, 6, .inl (fun _ => 0))), (q13, .inl (k14, 6, .inl (fun _ => 0))), (q15, .inl (k16, 6, .inl (fun _ => 0))), (q17, .inl (k18, 6, .inr (.inl (fun _ => 0))))] H := hP
  have hD : va_D A [(pl, .inr (1, [.null, .ref q1, .ref q3, .ref q5, .ref q7, .int 0, .int 0, .int 0, .long 0, .int 0, .ref q9, .ref q11, .ref q13, .ref q15, .ref q17])), (q1, .inl (k2, 192, .inr (.inl (fun _ => 0)))), (q3, .inl (k4, 192, .inl (fun _ => 0))), (q5, .inl (k6, 64, .inr (.inl (fun _ => 0)))), (q7, .inl (k8, 64, .inl (fun _ => 0))), (q9, .inl (k10, 6, .inl (fun _ => 0))), (q11, .inl (k12, 6, .inl (fun _ => 0))), (q13, .inl (k14, 6, .inl (fun _ => 0))), (q15, .inl (k16, 6, .inl (fun _ => 0))), (q17, .inl (k18, 6, .inr (.inl (fun _ => 0))))] := hD
  refine lv_aload_n hx hb dX1_init_78 rfl (lv_at hl 0 rfl) ?_
  refine lv_aload_n hx hb dX1_init_79 rfl (lv_at hl 1 rfl) ?_
  refine va_putF (D := (dC, dI)) (ci := 1) (v := .ref wd) (ty := (.object "ColdShips$World")) (C := RX1) (T := TX1) (N := 15) hx hb hts hfX1 tyX1 tyX1_ok nmX1 hown hK hP hD hS 0 rfl rfl 0 (by decide) (hts (.fieldLink RX1 40 "ColdShips$Planner" "world" "LColdShips$World;") (by decide +kernel)) (fun _ h9 => h9) rfl hin rfl (by decide +kernel) rfl rfl (Nat.le_of_ble_eq_true rfl) dX1_init_80 (fun H locs hP hD hS => ?_)
  have hP : va_P (dC, dI) vwCl [(pl, .inr (1, [.ref wd, .ref q1, .ref q3, .ref q5, .ref q7, .int 0, .int 0, .int 0, .long 0, .int 0, .ref q9, .ref q11, .ref q13, .ref q15, .ref q17])), (q1, .inl (k2, 192, .inr (.inl (fun _ => 0)))), (q3, .inl (k4, 192, .inl (fun _ => 0))), (q5, .inl (k6, 64, .inr (.inl (fun _ => 0)))), (q7, .inl (k8, 64, .inl (fun _ => 0))), (q9, .inl (k10, 6, .inl (fun _ => 0))), (q11, .inl (k12, 6, .inl (fun _ => 0))), (q13, .inl (k14, 6, .inl (fun _ => 0))), (q15, .inl (k16, 6, .inl (fun _ => 0))), (q17, .inl (k18, 6, .inr (.inl (fun _ => 0))))] H := hP
  have hD : va_D A [(pl, .inr (1, [.ref wd, .ref q1, .ref q3, .ref q5, .ref q7, .int 0, .int 0, .int 0, .long 0, .int 0, .ref q9, .ref q11, .ref q13, .ref q15, .ref q17])), (q1, .inl (k2, 192, .inr (.inl (fun _ => 0)))), (q3, .inl (k4, 192, .inl (fun _ => 0))), (q5, .inl (k6, 64, .inr (.inl (fun _ => 0)))), (q7, .inl (k8, 64, .inl (fun _ => 0))), (q9, .inl (k10, 6, .inl (fun _ => 0))), (q11, .inl (k12, 6, .inl (fun _ => 0))), (q13, .inl (k14, 6, .inl (fun _ => 0))), (q15, .inl (k16, 6, .inl (fun _ => 0))), (q17, .inl (k18, 6, .inr (.inl (fun _ => 0))))] := hD
  have hP9 := hP.sub (ws' := [(pl, .inr (1, [.ref wd, .ref q1, .ref q3, .ref q5, .ref q7, .int 0, .int 0, .int 0, .long 0, .int 0, .ref q9, .ref q11, .ref q13, .ref q15, .ref q17])), (q5, .inl (k6, 64, .inr (.inl (fun _ => 0)))), (q7, .inl (k8, 64, .inl (fun _ => 0)))]) [0, 3, 4] rfl
  have hD9 := hD.sub (ws' := [(pl, .inr (1, [.ref wd, .ref q1, .ref q3, .ref q5, .ref q7, .int 0, .int 0, .int 0, .long 0, .int 0, .ref q9, .ref q11, .ref q13, .ref q15, .ref q17])), (q5, .inl (k6, 64, .inr (.inl (fun _ => 0)))), (q7, .inl (k8, 64, .inl (fun _ => 0)))]) [0, 3, 4] (by decide +kernel) rfl
  have hK9 := hK.sub (tys' := [(k6, .long), (k8, .int)]) [2, 3] rfl
  exact W.vret hx hb hr (fun t ht hW => ⟨⟨(), rfl, trivial, ⟨q1, q3, q5, q7, q9, q11, q13, q15, q17, k6, k8, by rw [ht]; exact hP9, va_K.moved hW.alike hK9, hD9⟩⟩, hS.F ht⟩) hS.2.2 dX1_init_83
