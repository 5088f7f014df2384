section
set_option maxHeartbeats 4000000 in
set_option maxRecDepth 100000 in
theorem t_X5_forgetLanding (l : Launch) (dC : Nat → ClassId) (dI : Nat → Nat → Nat) (sz : Nat) (Ω : Nat → Nat → (Nat → Nat) → va_E → Prop) (κ : Nat → ClassId) (τ ν : Nat → Nat) (ρ : Nat → Nat → Nat) (L : List Nat) (f : Nat → va_E) (hG : tp_G τ ν ρ L) (hT : tp_T Ω κ τ ν ρ f) (h0 : Nat) (ht_h0 : τ h0 = 6) : Met l yX5_forgetLanding wqX5_forgetLanding ({ frames := 3, cells := 0, slots := 0, locals := 800 }) (va_Pc [.ref h0] (pz_B dC dI (tp_K κ) (va_pl L f) sz)) (va_Qv (fun (f1 : Nat → va_E) => tp_T Ω κ τ ν ρ f1 ∧ tp_F τ [6, 20] f f1 ∧ True) (fun (f1 : Nat → va_E) (t : State) => pz_E dC dI (tp_K κ) (va_A (va_pl L f) sz) (va_pl L f1) t) (va_A (va_pl L f) sz)) 0 0 (va_A (va_pl L f) sz) := by
  refine Met.ofW (cc := cX5_forgetLanding) (maxL := 1) (ret := none) (by decide) rfl ?_
  intro p e s m args below meth c s₁ B hml hv
  obtain ⟨rfl, hsz, hP, hK, hD0, hN⟩ := hv
  have hx := B.exec
  have hb := B.bytes
  have hr := B.returns
  have hts := fun (w : Cond) (h : w ∈ WALL) => atoms_spec (ws := wqX5_forgetLanding) B.pre w (List.mem_cons_of_mem _ h)
  have hown : s.vm.findClass RX5 = some m.cls := findClass_of_methodNamed B.named
  have hlocks := B.notSynchronized
  subst hsz
  have hD := hD0.self (sz := s.heap.size)
  generalize hAe : va_A (va_pl L f) s.heap.size = A at hD ⊢
  have hA : ∀ q : Nat, s.heap.size ≤ q → A q := fun q h => by rw [← hAe]; exact Or.inr h
  have hS : va_S A s.heap s.heap [] := va_S.rf
  have hR : tp_F τ [6, 20] f f := tp_F.rf
  have hl := lv_entry ([.ref h0]) (n := 1) (Nat.le_of_ble_eq_true rfl)
  rw [lg_entry_eq]
  generalize (lg_sl ([.ref h0]) ++ List.replicate (1 - (lg_sl ([.ref h0])).length) Slot.unset).toArray = ls at hl ⊢
  have hl : lv_has ls 1 [(0, .ref h0)] := hl
  refine lv_aload_n hx hb dX5_forgetLanding_0 rfl (lv_at hl 0 rfl) ?_
  refine lv_iconst (v := 0) hx hb dX5_forgetLanding_1 (by decide) ?_
  refine tgk_6 hG ht_h0 (fun y1 y2 y2n y3 y3n y4 y4n y5 y5n y6 y6n y7 y7n => ?_)
  refine tpk_6 hT ht_h0 (fun o8_x1 o8_x2 o8_x3 o8_x4 o8_x5 o8_x6 o8_x10 o8_x11 o8_x12 o8_x14 hf_o8 ro8_0 ro8_1 ro8_2 => ?_)
  refine tpk_pos (tp_in hG ht_h0 (by decide)) hf_o8 (fun q9 eq9 => ?_)
  refine va_put (D := (dC, dI)) (ci := 5) (v := .int 0) (ty := .int) (C := RX5) (T := TX5) (N := 17) hx hb hts hfX5 tyX5 tyX5_ok nmX5 hown hK hP hD hS q9 eq9 rfl 12 (by decide) (hts (.fieldLink RX5 93 "ColdShips$Ship" "landTons" "I") wa_266) (fun _ h9 => h9) rfl (tyX5_ok 12 (by decide)) rfl rfl (Nat.le_of_ble_eq_true rfl) dX5_forgetLanding_2 (tp_k (.inr (5, [.ref (ρ h0 0), .int o8_x1, .int o8_x2, .int o8_x3, .int o8_x4, .int o8_x5, .int o8_x6, .ref (ρ h0 7), .ref (ρ h0 8), .ref (ρ h0 9), .int o8_x10, .int o8_x11, .int 0, .ref (ρ h0 13), .int o8_x14, .ref (ρ h0 15), .ref (ρ h0 16)])) hD (tp_in hG ht_h0 (by decide)) eq9 (fun f10 H locs hP hD hS g12 k11 => ?_))
  have hT := hT.up ht_h0 g12 k11 ⟨_, _, _, _, _, _, _, _, _, _, rfl, ro8_0, ro8_1, ro8_2⟩
  have hR := hR.up ht_h0 (by decide) k11
  refine lv_aload_n hx hb dX5_forgetLanding_5 rfl (lv_at hl 0 rfl) ?_
  refine tpk_pos (tp_in hG ht_h0 (by decide)) g12 (fun q13 eq13 => ?_)
  refine va_get (D := (dC, dI)) (ci := 5) (v := .ref (ρ h0 13)) (C := RX5) (T := TX5) (N := 17) hx hb hts hfX5 hown hK hP q13 eq13 rfl 13 (by decide) (hts (.fieldLink RX5 29 "ColdShips$Ship" "landParts" "[I") wa_100) (fun _ h9 => h9) rfl dX5_forgetLanding_6 ?_
  refine lv_iconst (v := 0) hx hb dX5_forgetLanding_9 (by decide) ?_
  have hFc := tp_fr hD hS hA
  refine va_callv (va_runS (As := [.ref (ρ h0 13), .int 0]) (rest := []) ⟨hx, hb, hml, hown, hts⟩ (t_J7_fill_53178 l dC dI _ Ω κ τ ν ρ L f10 hG hT (ρ h0 13) (0) y5 (by first | omega | (have : (0 : Int32).toInt = 0 := rfl; omega))) (va_cwS 2 hts gX5_forgetLanding_J7_fill_53178 rfl rfl rfl pd_J7_fill_53178 ⟨Nat.le_of_ble_eq_true rfl, Nat.le_of_ble_eq_true rfl⟩) ⟨pz_blind, pz_pre hP hK hD hN⟩ rfl rfl hl.1 rfl (lv_room (Nat.le_of_ble_eq_true rfl)) dX5_forgetLanding_10 ⟨Nat.le_of_ble_eq_true rfl, Nat.le_of_ble_eq_true rfl⟩) hS (fun q _ h => hFc q h) hFc (fun f16 t H1 locs ht hvm hw15 hB hz1 hk1 hS => ?_)
  refine tn_3 hw15 (fun hT hF17 hw15p => ?_); clear hw15
  have hR := hR.then hF17 (by decide)
  have hP := hB.1; rw [ht] at hP; have hD := tp_ad f16 hD; clear hB hFc hz1 hk1; subst ht; generalize t.heap = H at hP hS ⊢
  exact W.vret hx hb hr (fun t ht hW => ⟨⟨f16, rfl, ⟨hT, hR, trivial⟩, by rw [ht]; exact hP, va_K.moved hW.alike hK, hD⟩, hS.F ht⟩) hS.2.2 dX5_forgetLanding_13
set_option maxHeartbeats 4000000 in
set_option maxRecDepth 100000 in
theorem t_X5_begin (l : Launch) (dC : Nat → ClassId) (dI : Nat → Nat → Nat) (sz : Nat) (Ω : Nat → Nat → (Nat → Nat) → va_E → Prop) (κ : Nat → ClassId) (τ ν : Nat → Nat) (ρ : Nat → Nat → Nat) (L : List Nat) (f : Nat → va_E) (hG : tp_G τ ν ρ L) (hT : tp_T Ω κ τ ν ρ f) (h0 : Nat) (a : Int32) (b : Int32) (a3 : Int32) (ht_h0 : τ h0 = 6) (hr_a : 0 ≤ a.toInt ∧ a.toInt ≤ 5) : Met l yX5_begin wqX5_begin ({ frames := 4, cells := 0, slots := 0, locals := 1200 }) (va_Pc [.ref h0, .int a, .int b, .int a3] (pz_B dC dI (tp_K κ) (va_pl L f) sz)) (va_Qv (fun (f1 : Nat → va_E) => tp_T Ω κ τ ν ρ f1 ∧ tp_F τ [6, 8, 20, 21] f f1 ∧ True) (fun (f1 : Nat → va_E) (t : State) => pz_E dC dI (tp_K κ) (va_A (va_pl L f) sz) (va_pl L f1) t) (va_A (va_pl L f) sz)) 0 0 (va_A (va_pl L f) sz) := by
  refine Met.ofW (cc := cX5_begin) (maxL := 4) (ret := none) (by decide) rfl ?_
  intro p e s m args below meth c s₁ B hml hv
  obtain ⟨rfl, hsz, hP, hK, hD0, hN⟩ := hv
  have hx := B.exec
  have hb := B.bytes
  have hr := B.returns
  have hts := fun (w : Cond) (h : w ∈ WALL) => atoms_spec (ws := wqX5_begin) B.pre w (List.mem_cons_of_mem _ h)
  have hown : s.vm.findClass RX5 = some m.cls := findClass_of_methodNamed B.named
  have hlocks := B.notSynchronized
  subst hsz
  have hD := hD0.self (sz := s.heap.size)
  generalize hAe : va_A (va_pl L f) s.heap.size = A at hD ⊢
  have hA : ∀ q : Nat, s.heap.size ≤ q → A q := fun q h => by rw [← hAe]; exact Or.inr h
  have hS : va_S A s.heap s.heap [] := va_S.rf
  have hR : tp_F τ [6, 8, 20, 21] f f := tp_F.rf
  have hl := lv_entry ([.ref h0, .int a, .int b, .int a3]) (n := 4) (Nat.le_of_ble_eq_true rfl)
  rw [lg_entry_eq]
  generalize (lg_sl ([.ref h0, .int a, .int b, .int a3]) ++ List.replicate (4 - (lg_sl ([.ref h0, .int a, .int b, .int a3])).length) Slot.unset).toArray = ls at hl ⊢
  have hl : lv_has ls 4 [(0, .ref h0), (1, .int a), (2, .int b), (3, .int a3)] := hl
  refine lv_aload_n hx hb dX5_begin_0 rfl (lv_at hl 0 rfl) ?_
  refine tgk_6 hG ht_h0 (fun y1 y2 y2n y3 y3n y4 y4n y5 y5n y6 y6n y7 y7n => ?_)
  refine tpk_6 hT ht_h0 (fun o8_x1 o8_x2 o8_x3 o8_x4 o8_x5 o8_x6 o8_x10 o8_x11 o8_x12 o8_x14 hf_o8 ro8_0 ro8_1 ro8_2 => ?_)
  refine tpk_pos (tp_in hG ht_h0 (by decide)) hf_o8 (fun q9 eq9 => ?_)
  refine va_get (D := (dC, dI)) (ci := 5) (v := .ref (ρ h0 0)) (C := RX5) (T := TX5) (N := 17) hx hb hts hfX5 hown hK hP q9 eq9 rfl 0 (by decide) (hts (.fieldLink RX5 12 "ColdShips$Ship" "tank" "LColdShips$Tank;") wa_96) (fun _ h9 => h9) rfl dX5_begin_1 ?_
  refine lv_iload_n hx hb dX5_begin_4 rfl (lv_at hl 2 rfl) ?_
  refine tgk_8 hG y1 (fun y10 y10n y11 y11n y12 y12n => ?_)
  refine tpk_8 hT y1 (fun o13_x0 o13_x1 o13_x2 o13_x3 hf_o13 ro13_0 => ?_)
  refine tpk_pos (tp_in hG y1 (by decide)) hf_o13 (fun q14 eq14 => ?_)
  have hFc := tp_fr hD hS hA
  refine va_callv (va_runV (As := [.int b]) (rest := []) ⟨hx, hb, hml, hown, hts⟩ (t_X7_begin l dC dI _ Ω κ τ ν ρ L f hG hT (ρ h0 0) b y1) (cwV 1 hts gX5_begin_X7_begin rfl rfl rfl ⟨rfl, pd_X7_begin⟩ ⟨Nat.le_of_ble_eq_true rfl, Nat.le_of_ble_eq_true rfl⟩) ⟨pz_blind, va_recv hK hP (ci := 7) (q0 := q14) rfl eq14, pz_pre hP hK hD hN⟩ rfl rfl hl.1 rfl (lv_room (Nat.le_of_ble_eq_true rfl)) dX5_begin_5 ⟨Nat.le_of_ble_eq_true rfl, Nat.le_of_ble_eq_true rfl⟩) hS (fun q _ h => hFc q h) hFc (fun f17 t H1 locs ht hvm hw16 hB hz1 hk1 hS => ?_)
  refine tn_3 hw16 (fun hT hF18 hw16p => ?_); clear hw16
  have hR := hR.then hF18 (by decide)
  have hP := hB.1; rw [ht] at hP; have hD := tp_ad f17 hD; clear hB hFc hz1 hk1; subst ht; generalize t.heap = H at hP hS ⊢
  refine lv_aload_n hx hb dX5_begin_8 rfl (lv_at hl 0 rfl) ?_
  refine lv_iload_n hx hb dX5_begin_9 rfl (lv_at hl 3 rfl) ?_
  have hf_19 : f17 h0 = .inr (5, [.ref (ρ h0 0), .int o8_x1, .int o8_x2, .int o8_x3, .int o8_x4, .int o8_x5, .int o8_x6, .ref (ρ h0 7), .ref (ρ h0 8), .ref (ρ h0 9), .int o8_x10, .int o8_x11, .int o8_x12, .ref (ρ h0 13), .int o8_x14, .ref (ρ h0 15), .ref (ρ h0 16)]) := (hF18 _ (by rw [ht_h0]; decide)).trans hf_o8
  refine tpk_pos (tp_in hG ht_h0 (by decide)) hf_19 (fun q20 eq20 => ?_)
  refine va_put (D := (dC, dI)) (ci := 5) (v := .int a3) (ty := .int) (C := RX5) (T := TX5) (N := 17) hx hb hts hfX5 tyX5 tyX5_ok nmX5 hown hK hP hD hS q20 eq20 rfl 1 (by decide) (hts (.fieldLink RX5 42 "ColdShips$Ship" "fuel" "I") wa_242) (fun _ h9 => h9) rfl (tyX5_ok 1 (by decide)) rfl rfl (Nat.le_of_ble_eq_true rfl) dX5_begin_10 (tp_k (.inr (5, [.ref (ρ h0 0), .int a3, .int o8_x2, .int o8_x3, .int o8_x4, .int o8_x5, .int o8_x6, .ref (ρ h0 7), .ref (ρ h0 8), .ref (ρ h0 9), .int o8_x10, .int o8_x11, .int o8_x12, .ref (ρ h0 13), .int o8_x14, .ref (ρ h0 15), .ref (ρ h0 16)])) hD (tp_in hG ht_h0 (by decide)) eq20 (fun f21 H locs hP hD hS g23 k22 => ?_))
  have hT := hT.up ht_h0 g23 k22 ⟨_, _, _, _, _, _, _, _, _, _, rfl, ro8_0, ro8_1, ro8_2⟩
  have hR := hR.up ht_h0 (by decide) k22
  refine lv_aload_n hx hb dX5_begin_13 rfl (lv_at hl 0 rfl) ?_
  refine lv_iload_n hx hb dX5_begin_14 rfl (lv_at hl 1 rfl) ?_
  refine tpk_pos (tp_in hG ht_h0 (by decide)) g23 (fun q24 eq24 => ?_)
  refine va_put (D := (dC, dI)) (ci := 5) (v := .int a) (ty := .int) (C := RX5) (T := TX5) (N := 17) hx hb hts hfX5 tyX5 tyX5_ok nmX5 hown hK hP hD hS q24 eq24 rfl 2 (by decide) (hts (.fieldLink RX5 46 "ColdShips$Ship" "where" "I") wa_243) (fun _ h9 => h9) rfl (tyX5_ok 2 (by decide)) rfl rfl (Nat.le_of_ble_eq_true rfl) dX5_begin_15 (tp_k (.inr (5, [.ref (ρ h0 0), .int a3, .int a, .int o8_x3, .int o8_x4, .int o8_x5, .int o8_x6, .ref (ρ h0 7), .ref (ρ h0 8), .ref (ρ h0 9), .int o8_x10, .int o8_x11, .int o8_x12, .ref (ρ h0 13), .int o8_x14, .ref (ρ h0 15), .ref (ρ h0 16)])) hD (tp_in hG ht_h0 (by decide)) eq24 (fun f25 H locs hP hD hS g27 k26 => ?_))
  have hT := hT.up ht_h0 g27 k26 ⟨_, _, _, _, _, _, _, _, _, _, rfl, (by first | decide | omega | (omega)), ro8_1, ro8_2⟩
  have hR := hR.up ht_h0 (by decide) k26
  refine lv_aload_n hx hb dX5_begin_18 rfl (lv_at hl 0 rfl) ?_
  refine lv_iconst (v := 0) hx hb dX5_begin_19 (by decide) ?_
  refine tpk_pos (tp_in hG ht_h0 (by decide)) g27 (fun q28 eq28 => ?_)
  refine va_put (D := (dC, dI)) (ci := 5) (v := .int 0) (ty := .int) (C := RX5) (T := TX5) (N := 17) hx hb hts hfX5 tyX5 tyX5_ok nmX5 hown hK hP hD hS q28 eq28 rfl 3 (by decide) (hts (.fieldLink RX5 49 "ColdShips$Ship" "left" "I") wa_244) (fun _ h9 => h9) rfl (tyX5_ok 3 (by decide)) rfl rfl (Nat.le_of_ble_eq_true rfl) dX5_begin_20 (tp_k (.inr (5, [.ref (ρ h0 0), .int a3, .int a, .int 0, .int o8_x4, .int o8_x5, .int o8_x6, .ref (ρ h0 7), .ref (ρ h0 8), .ref (ρ h0 9), .int o8_x10, .int o8_x11, .int o8_x12, .ref (ρ h0 13), .int o8_x14, .ref (ρ h0 15), .ref (ρ h0 16)])) hD (tp_in hG ht_h0 (by decide)) eq28 (fun f29 H locs hP hD hS g31 k30 => ?_))
  have hT := hT.up ht_h0 g31 k30 ⟨_, _, _, _, _, _, _, _, _, _, rfl, (by first | decide | omega | (have : (0 : Int32).toInt = 0 := rfl; omega)), ro8_1, ro8_2⟩
  have hR := hR.up ht_h0 (by decide) k30
  refine lv_aload_n hx hb dX5_begin_23 rfl (lv_at hl 0 rfl) ?_
  refine lv_iconst (v := 0) hx hb dX5_begin_24 (by decide) ?_
  refine tpk_pos (tp_in hG ht_h0 (by decide)) g31 (fun q32 eq32 => ?_)
  refine va_put (D := (dC, dI)) (ci := 5) (v := .int 0) (ty := .int) (C := RX5) (T := TX5) (N := 17) hx hb hts hfX5 tyX5 tyX5_ok nmX5 hown hK hP hD hS q32 eq32 rfl 4 (by decide) (hts (.fieldLink RX5 52 "ColdShips$Ship" "half" "I") wa_245) (fun _ h9 => h9) rfl (tyX5_ok 4 (by decide)) rfl rfl (Nat.le_of_ble_eq_true rfl) dX5_begin_25 (tp_k (.inr (5, [.ref (ρ h0 0), .int a3, .int a, .int 0, .int 0, .int o8_x5, .int o8_x6, .ref (ρ h0 7), .ref (ρ h0 8), .ref (ρ h0 9), .int o8_x10, .int o8_x11, .int o8_x12, .ref (ρ h0 13), .int o8_x14, .ref (ρ h0 15), .ref (ρ h0 16)])) hD (tp_in hG ht_h0 (by decide)) eq32 (fun f33 H locs hP hD hS g35 k34 => ?_))
  have hT := hT.up ht_h0 g35 k34 ⟨_, _, _, _, _, _, _, _, _, _, rfl, (by first | decide | omega | (have : (0 : Int32).toInt = 0 := rfl; have : (0 : Int32).toInt = 0 := rfl; omega)), ro8_1, ro8_2⟩
  have hR := hR.up ht_h0 (by decide) k34
  refine lv_aload_n hx hb dX5_begin_28 rfl (lv_at hl 0 rfl) ?_
  refine lv_iconst (v := 0) hx hb dX5_begin_29 (by decide) ?_
  refine tpk_pos (tp_in hG ht_h0 (by decide)) g35 (fun q36 eq36 => ?_)
  refine va_put (D := (dC, dI)) (ci := 5) (v := .int 0) (ty := .boolean) (C := RX5) (T := TX5) (N := 17) hx hb hts hfX5 tyX5 tyX5_ok nmX5 hown hK hP hD hS q36 eq36 rfl 5 (by decide) (hts (.fieldLink RX5 55 "ColdShips$Ship" "drifting" "Z") wa_246) (fun _ h9 => h9) rfl (tyX5_ok 5 (by decide)) rfl rfl (Nat.le_of_ble_eq_true rfl) dX5_begin_30 (tp_k (.inr (5, [.ref (ρ h0 0), .int a3, .int a, .int 0, .int 0, .int 0, .int o8_x6, .ref (ρ h0 7), .ref (ρ h0 8), .ref (ρ h0 9), .int o8_x10, .int o8_x11, .int o8_x12, .ref (ρ h0 13), .int o8_x14, .ref (ρ h0 15), .ref (ρ h0 16)])) hD (tp_in hG ht_h0 (by decide)) eq36 (fun f37 H locs hP hD hS g39 k38 => ?_))
  have hT := hT.up ht_h0 g39 k38 ⟨_, _, _, _, _, _, _, _, _, _, rfl, (by first | decide | omega | (have : (0 : Int32).toInt = 0 := rfl; have : (0 : Int32).toInt = 0 := rfl; have : (0 : Int32).toInt = 0 := rfl; omega)), (by first | decide | omega | (have : (0 : Int32).toInt = 0 := rfl; have : (0 : Int32).toInt = 0 := rfl; have : (0 : Int32).toInt = 0 := rfl; omega)), ro8_2⟩
  have hR := hR.up ht_h0 (by decide) k38
  refine lv_aload_n hx hb dX5_begin_33 rfl (lv_at hl 0 rfl) ?_
  refine lv_iconst (v := 0) hx hb dX5_begin_34 (by decide) ?_
  refine tpk_pos (tp_in hG ht_h0 (by decide)) g39 (fun q40 eq40 => ?_)
  refine va_put (D := (dC, dI)) (ci := 5) (v := .int 0) (ty := .int) (C := RX5) (T := TX5) (N := 17) hx hb hts hfX5 tyX5 tyX5_ok nmX5 hown hK hP hD hS q40 eq40 rfl 6 (by decide) (hts (.fieldLink RX5 59 "ColdShips$Ship" "orders" "I") wa_247) (fun _ h9 => h9) rfl (tyX5_ok 6 (by decide)) rfl rfl (Nat.le_of_ble_eq_true rfl) dX5_begin_35 (tp_k (.inr (5, [.ref (ρ h0 0), .int a3, .int a, .int 0, .int 0, .int 0, .int 0, .ref (ρ h0 7), .ref (ρ h0 8), .ref (ρ h0 9), .int o8_x10, .int o8_x11, .int o8_x12, .ref (ρ h0 13), .int o8_x14, .ref (ρ h0 15), .ref (ρ h0 16)])) hD (tp_in hG ht_h0 (by decide)) eq40 (fun f41 H locs hP hD hS g43 k42 => ?_))
  have hT := hT.up ht_h0 g43 k42 ⟨_, _, _, _, _, _, _, _, _, _, rfl, (by first | decide | omega | (have : (0 : Int32).toInt = 0 := rfl; have : (0 : Int32).toInt = 0 := rfl; have : (0 : Int32).toInt = 0 := rfl; have : (0 : Int32).toInt = 0 := rfl; omega)), (by first | decide | omega | (have : (0 : Int32).toInt = 0 := rfl; have : (0 : Int32).toInt = 0 := rfl; have : (0 : Int32).toInt = 0 := rfl; have : (0 : Int32).toInt = 0 := rfl; omega)), (by first | decide | omega | (have : (0 : Int32).toInt = 0 := rfl; have : (0 : Int32).toInt = 0 := rfl; have : (0 : Int32).toInt = 0 := rfl; have : (0 : Int32).toInt = 0 := rfl; omega))⟩
  have hR := hR.up ht_h0 (by decide) k42
  refine lv_aload_n hx hb dX5_begin_38 rfl (lv_at hl 0 rfl) ?_
  refine lv_iconst (v := 0) hx hb dX5_begin_39 (by decide) ?_
  refine tpk_pos (tp_in hG ht_h0 (by decide)) g43 (fun q44 eq44 => ?_)
  refine va_put (D := (dC, dI)) (ci := 5) (v := .int 0) (ty := .int) (C := RX5) (T := TX5) (N := 17) hx hb hts hfX5 tyX5 tyX5_ok nmX5 hown hK hP hD hS q44 eq44 rfl 14 (by decide) (hts (.fieldLink RX5 62 "ColdShips$Ship" "list" "I") wa_248) (fun _ h9 => h9) rfl (tyX5_ok 14 (by decide)) rfl rfl (Nat.le_of_ble_eq_true rfl) dX5_begin_40 (tp_k (.inr (5, [.ref (ρ h0 0), .int a3, .int a, .int 0, .int 0, .int 0, .int 0, .ref (ρ h0 7), .ref (ρ h0 8), .ref (ρ h0 9), .int o8_x10, .int o8_x11, .int o8_x12, .ref (ρ h0 13), .int 0, .ref (ρ h0 15), .ref (ρ h0 16)])) hD (tp_in hG ht_h0 (by decide)) eq44 (fun f45 H locs hP hD hS g47 k46 => ?_))
  have hT := hT.up ht_h0 g47 k46 ⟨_, _, _, _, _, _, _, _, _, _, rfl, (by first | decide | omega | (have : (0 : Int32).toInt = 0 := rfl; have : (0 : Int32).toInt = 0 := rfl; have : (0 : Int32).toInt = 0 := rfl; have : (0 : Int32).toInt = 0 := rfl; have : (0 : Int32).toInt = 0 := rfl; omega)), (by first | decide | omega | (have : (0 : Int32).toInt = 0 := rfl; have : (0 : Int32).toInt = 0 := rfl; have : (0 : Int32).toInt = 0 := rfl; have : (0 : Int32).toInt = 0 := rfl; have : (0 : Int32).toInt = 0 := rfl; omega)), (by first | decide | omega | (have : (0 : Int32).toInt = 0 := rfl; have : (0 : Int32).toInt = 0 := rfl; have : (0 : Int32).toInt = 0 := rfl; have : (0 : Int32).toInt = 0 := rfl; have : (0 : Int32).toInt = 0 := rfl; omega))⟩
  have hR := hR.up ht_h0 (by decide) k46
  refine lv_aload_n hx hb dX5_begin_43 rfl (lv_at hl 0 rfl) ?_
  refine tpk_pos (tp_in hG ht_h0 (by decide)) g47 (fun q48 eq48 => ?_)
  refine va_get (D := (dC, dI)) (ci := 5) (v := .ref (ρ h0 9)) (C := RX5) (T := TX5) (N := 17) hx hb hts hfX5 hown hK hP q48 eq48 rfl 9 (by decide) (hts (.fieldLink RX5 25 "ColdShips$Ship" "book" "[J") wa_99) (fun _ h9 => h9) rfl dX5_begin_44 ?_
  refine lv_lconst (v := 0) hx hb dX5_begin_47 (by decide) ?_
  have hFc := tp_fr hD hS hA
  refine va_callv (va_runS (As := [.ref (ρ h0 9), .long 0]) (rest := []) ⟨hx, hb, hml, hown, hts⟩ (t_J7_fill_d0a16 l dC dI _ Ω κ τ ν ρ L f45 hG hT (ρ h0 9) (0) y4 (by omega)) (va_cwS 2 hts gX5_begin_J7_fill_d0a16 rfl rfl rfl pd_J7_fill_d0a16 ⟨Nat.le_of_ble_eq_true rfl, Nat.le_of_ble_eq_true rfl⟩) ⟨pz_blind, pz_pre hP hK hD hN⟩ rfl rfl hl.1 rfl (lv_room (Nat.le_of_ble_eq_true rfl)) dX5_begin_48 ⟨Nat.le_of_ble_eq_true rfl, Nat.le_of_ble_eq_true rfl⟩) hS (fun q _ h => hFc q h) hFc (fun f51 t H1 locs ht hvm hw50 hB hz1 hk1 hS => ?_)
  refine tn_3 hw50 (fun hT hF52 hw50p => ?_); clear hw50
  have hR := hR.then hF52 (by decide)
  have hP := hB.1; rw [ht] at hP; have hD := tp_ad f51 hD; clear hB hFc hz1 hk1; subst ht; generalize t.heap = H at hP hS ⊢
  refine lv_aload_n hx hb dX5_begin_51 rfl (lv_at hl 0 rfl) ?_
  have hf_53 : f51 h0 = .inr (5, [.ref (ρ h0 0), .int a3, .int a, .int 0, .int 0, .int 0, .int 0, .ref (ρ h0 7), .ref (ρ h0 8), .ref (ρ h0 9), .int o8_x10, .int o8_x11, .int o8_x12, .ref (ρ h0 13), .int 0, .ref (ρ h0 15), .ref (ρ h0 16)]) := (hF52 _ (by rw [ht_h0]; decide)).trans g47
  refine tpk_pos (tp_in hG ht_h0 (by decide)) hf_53 (fun q54 eq54 => ?_)
  refine va_get (D := (dC, dI)) (ci := 5) (v := .ref (ρ h0 15)) (C := RX5) (T := TX5) (N := 17) hx hb hts hfX5 hown hK hP q54 eq54 rfl 15 (by decide) (hts (.fieldLink RX5 32 "ColdShips$Ship" "gaugeCentimetres" "[I") wa_101) (fun _ h9 => h9) rfl dX5_begin_52 ?_
  refine lv_iconst (v := (-1)) hx hb dX5_begin_55 (by decide) ?_
  have hFc := tp_fr hD hS hA
  refine va_callv (va_runS (As := [.ref (ρ h0 15), .int (-1)]) (rest := []) ⟨hx, hb, hml, hown, hts⟩ (t_J7_fill_53178 l dC dI _ Ω κ τ ν ρ L f51 hG hT (ρ h0 15) ((-1)) y6 (by first | omega | (have : ((-1) : Int32).toInt = (-1) := rfl; omega))) (va_cwS 2 hts gX5_begin_J7_fill_53178 rfl rfl rfl pd_J7_fill_53178 ⟨Nat.le_of_ble_eq_true rfl, Nat.le_of_ble_eq_true rfl⟩) ⟨pz_blind, pz_pre hP hK hD hN⟩ rfl rfl hl.1 rfl (lv_room (Nat.le_of_ble_eq_true rfl)) dX5_begin_56 ⟨Nat.le_of_ble_eq_true rfl, Nat.le_of_ble_eq_true rfl⟩) hS (fun q _ h => hFc q h) hFc (fun f57 t H1 locs ht hvm hw56 hB hz1 hk1 hS => ?_)
  refine tn_3 hw56 (fun hT hF58 hw56p => ?_); clear hw56
  have hR := hR.then hF58 (by decide)
  have hP := hB.1; rw [ht] at hP; have hD := tp_ad f57 hD; clear hB hFc hz1 hk1; subst ht; generalize t.heap = H at hP hS ⊢
  refine lv_aload_n hx hb dX5_begin_59 rfl (lv_at hl 0 rfl) ?_
  have hf_59 : f57 h0 = .inr (5, [.ref (ρ h0 0), .int a3, .int a, .int 0, .int 0, .int 0, .int 0, .ref (ρ h0 7), .ref (ρ h0 8), .ref (ρ h0 9), .int o8_x10, .int o8_x11, .int o8_x12, .ref (ρ h0 13), .int 0, .ref (ρ h0 15), .ref (ρ h0 16)]) := (hF58 _ (by rw [ht_h0]; decide)).trans hf_53
  refine tpk_pos (tp_in hG ht_h0 (by decide)) hf_59 (fun q60 eq60 => ?_)
  have hFc := tp_fr hD hS hA
  refine va_callv (va_runV (As := []) (rest := []) ⟨hx, hb, hml, hown, hts⟩ (t_X5_forgetLanding l dC dI _ Ω κ τ ν ρ L f57 hG hT h0 ht_h0) (cwV 0 hts gX5_begin_X5_forgetLanding rfl rfl rfl ⟨rfl, pd_X5_forgetLanding⟩ ⟨Nat.le_of_ble_eq_true rfl, Nat.le_of_ble_eq_true rfl⟩) ⟨pz_blind, va_recv hK hP (ci := 5) (q0 := q60) rfl eq60, pz_pre hP hK hD hN⟩ rfl rfl hl.1 rfl (lv_room (Nat.le_of_ble_eq_true rfl)) dX5_begin_60 ⟨Nat.le_of_ble_eq_true rfl, Nat.le_of_ble_eq_true rfl⟩) hS (fun q _ h => hFc q h) hFc (fun f63 t H1 locs ht hvm hw62 hB hz1 hk1 hS => ?_)
  refine tn_3 hw62 (fun hT hF64 hw62p => ?_); clear hw62
  have hR := hR.then hF64 (by decide)
  have hP := hB.1; rw [ht] at hP; have hD := tp_ad f63 hD; clear hB hFc hz1 hk1; subst ht; generalize t.heap = H at hP hS ⊢
  exact W.vret hx hb hr (fun t ht hW => ⟨⟨f63, rfl, ⟨hT, hR, trivial⟩, by rw [ht]; exact hP, va_K.moved hW.alike hK, hD⟩, hS.F ht⟩) hS.2.2 dX5_begin_63
set_option maxHeartbeats 4000000 in
set_option maxRecDepth 100000 in
theorem t_X5_addOrder (l : Launch) (dC : Nat → ClassId) (dI : Nat → Nat → Nat) (sz : Nat) (Ω : Nat → Nat → (Nat → Nat) → va_E → Prop) (κ : Nat → ClassId) (τ ν : Nat → Nat) (ρ : Nat → Nat → Nat) (L : List Nat) (f : Nat → va_E) (hG : tp_G τ ν ρ L) (hT : tp_T Ω κ τ ν ρ f) (h0 : Nat) (a : Int32) (b : Int32) (ht_h0 : τ h0 = 6) : Met l yX5_addOrder wqX5_addOrder ({ frames := 2, cells := 0, slots := 0, locals := 400 }) (va_Pc [.ref h0, .int a, .int b] (pz_B dC dI (tp_K κ) (va_pl L f) sz)) (va_Qv (fun (f1 : Nat → va_E) => tp_T Ω κ τ ν ρ f1 ∧ tp_F τ [6, 20] f f1 ∧ True) (fun (f1 : Nat → va_E) (t : State) => pz_E dC dI (tp_K κ) (va_A (va_pl L f) sz) (va_pl L f1) t) (va_A (va_pl L f) sz)) 0 0 (va_A (va_pl L f) sz) := by
  refine Met.ofW (cc := cX5_addOrder) (maxL := 3) (ret := none) (by decide) rfl ?_
  intro p e s m args below meth c s₁ B hml hv
  obtain ⟨rfl, hsz, hP, hK, hD0, hN⟩ := hv
  have hx := B.exec
  have hb := B.bytes
  have hr := B.returns
  have hts := fun (w : Cond) (h : w ∈ WALL) => atoms_spec (ws := wqX5_addOrder) B.pre w (List.mem_cons_of_mem _ h)
  have hown : s.vm.findClass RX5 = some m.cls := findClass_of_methodNamed B.named
  have hlocks := B.notSynchronized
  subst hsz
  have hD := hD0.self (sz := s.heap.size)
  generalize hAe : va_A (va_pl L f) s.heap.size = A at hD ⊢
  have hA : ∀ q : Nat, s.heap.size ≤ q → A q := fun q h => by rw [← hAe]; exact Or.inr h
  have hS : va_S A s.heap s.heap [] := va_S.rf
  have hR : tp_F τ [6, 20] f f := tp_F.rf
  have hl := lv_entry ([.ref h0, .int a, .int b]) (n := 3) (Nat.le_of_ble_eq_true rfl)
  rw [lg_entry_eq]
  generalize (lg_sl ([.ref h0, .int a, .int b]) ++ List.replicate (3 - (lg_sl ([.ref h0, .int a, .int b])).length) Slot.unset).toArray = ls at hl ⊢
  have hl : lv_has ls 3 [(0, .ref h0), (1, .int a), (2, .int b)] := hl
  refine lv_aload_n hx hb dX5_addOrder_0 rfl (lv_at hl 0 rfl) ?_
  refine tgk_6 hG ht_h0 (fun y1 y2 y2n y3 y3n y4 y4n y5 y5n y6 y6n y7 y7n => ?_)
  refine tpk_6 hT ht_h0 (fun o8_x1 o8_x2 o8_x3 o8_x4 o8_x5 o8_x6 o8_x10 o8_x11 o8_x12 o8_x14 hf_o8 ro8_0 ro8_1 ro8_2 => ?_)
  refine tpk_pos (tp_in hG ht_h0 (by decide)) hf_o8 (fun q9 eq9 => ?_)
  have ro8_2 := tp_hu ro8_2
  refine va_get (D := (dC, dI)) (ci := 5) (v := .int o8_x6) (C := RX5) (T := TX5) (N := 17) hx hb hts hfX5 hown hK hP q9 eq9 rfl 6 (by decide) (hts (.fieldLink RX5 59 "ColdShips$Ship" "orders" "I") wa_247) (fun _ h9 => h9) rfl dX5_addOrder_1 ?_
  refine lv_bipush (v := 20) hx hb dX5_addOrder_4 (by decide) ?_
  refine lv_icmp_ge (tgt := 39) hx hb dX5_addOrder_6 (by decide) (fun c10 => ?_) (fun c10 => ?_)
  · have ic10 : o8_x6.toInt ≥ 20 := zi_ge rfl rfl c10
    exact W.vret hx hb hr (fun t ht hW => ⟨⟨f, rfl, ⟨hT, hR, trivial⟩, by rw [ht]; exact hP, va_K.moved hW.alike hK, hD⟩, hS.F ht⟩) hS.2.2 dX5_addOrder_39
  · have ic10 : o8_x6.toInt < 20 := zi_gef rfl rfl c10
    refine lv_aload_n hx hb dX5_addOrder_9 rfl (lv_at hl 0 rfl) ?_
    refine va_get (D := (dC, dI)) (ci := 5) (v := .ref (ρ h0 7)) (C := RX5) (T := TX5) (N := 17) hx hb hts hfX5 hown hK hP q9 eq9 rfl 7 (by decide) (hts (.fieldLink RX5 18 "ColdShips$Ship" "orderSorts" "[I") wa_97) (fun _ h9 => h9) rfl dX5_addOrder_10 ?_
    refine lv_aload_n hx hb dX5_addOrder_13 rfl (lv_at hl 0 rfl) ?_
    refine va_get (D := (dC, dI)) (ci := 5) (v := .int o8_x6) (C := RX5) (T := TX5) (N := 17) hx hb hts hfX5 hown hK hP q9 eq9 rfl 6 (by decide) (hts (.fieldLink RX5 59 "ColdShips$Ship" "orders" "I") wa_247) (fun _ h9 => h9) rfl dX5_addOrder_14 ?_
    refine lv_iload_n hx hb dX5_addOrder_17 rfl (lv_at hl 1 rfl) ?_
    refine tpk_20 hT y2 y2n (fun g12 hf_o11 => ?_)
    refine tpk_pos (tp_in hG y2 (by decide)) hf_o11 (fun q13 eq13 => ?_)
    refine va_iast hx hb hK hP hD hS q13 0 eq13 rfl (vp_in_iff.mpr ⟨by omega, by omega⟩) dX5_addOrder_18 (tp_k (.inl (κ 0, 20, .inl (upd g12 o8_x6.toNatClampNeg a))) hD (tp_in hG y2 (by decide)) eq13 (fun f14 H locs hP hD hS g16 k15 => ?_))
    have hT := hT.up y2 g16 k15 (tp_o20 y2n)
    have hR := hR.up y2 (by decide) k15
    generalize (upd g12 o8_x6.toNatClampNeg a) = g17 at g16
    refine lv_aload_n hx hb dX5_addOrder_19 rfl (lv_at hl 0 rfl) ?_
    have hf_18 : f14 h0 = .inr (5, [.ref (ρ h0 0), .int o8_x1, .int o8_x2, .int o8_x3, .int o8_x4, .int o8_x5, .int o8_x6, .ref (ρ h0 7), .ref (ρ h0 8), .ref (ρ h0 9), .int o8_x10, .int o8_x11, .int o8_x12, .ref (ρ h0 13), .int o8_x14, .ref (ρ h0 15), .ref (ρ h0 16)]) := (k15 _ (tp_ne ht_h0 y2 (by decide))).trans hf_o8
    refine tpk_pos (tp_in hG ht_h0 (by decide)) hf_18 (fun q19 eq19 => ?_)
    refine va_get (D := (dC, dI)) (ci := 5) (v := .ref (ρ h0 8)) (C := RX5) (T := TX5) (N := 17) hx hb hts hfX5 hown hK hP q19 eq19 rfl 8 (by decide) (hts (.fieldLink RX5 22 "ColdShips$Ship" "orderWhats" "[I") wa_98) (fun _ h9 => h9) rfl dX5_addOrder_20 ?_
    refine lv_aload_n hx hb dX5_addOrder_23 rfl (lv_at hl 0 rfl) ?_
    refine va_get (D := (dC, dI)) (ci := 5) (v := .int o8_x6) (C := RX5) (T := TX5) (N := 17) hx hb hts hfX5 hown hK hP q19 eq19 rfl 6 (by decide) (hts (.fieldLink RX5 59 "ColdShips$Ship" "orders" "I") wa_247) (fun _ h9 => h9) rfl dX5_addOrder_24 ?_
    refine lv_iload_n hx hb dX5_addOrder_27 rfl (lv_at hl 2 rfl) ?_
    refine tpk_20 hT y3 y3n (fun g21 hf_o20 => ?_)
    refine tpk_pos (tp_in hG y3 (by decide)) hf_o20 (fun q22 eq22 => ?_)
    refine va_iast hx hb hK hP hD hS q22 0 eq22 rfl (vp_in_iff.mpr ⟨by omega, by omega⟩) dX5_addOrder_28 (tp_k (.inl (κ 0, 20, .inl (upd g21 o8_x6.toNatClampNeg b))) hD (tp_in hG y3 (by decide)) eq22 (fun f23 H locs hP hD hS g25 k24 => ?_))
    have hT := hT.up y3 g25 k24 (tp_o20 y3n)
    have hR := hR.up y3 (by decide) k24
    generalize (upd g21 o8_x6.toNatClampNeg b) = g26 at g25
    refine lv_aload_n hx hb dX5_addOrder_29 rfl (lv_at hl 0 rfl) ?_
    refine lv_dup hx hb dX5_addOrder_30 rfl ?_
    have hf_27 : f23 h0 = .inr (5, [.ref (ρ h0 0), .int o8_x1, .int o8_x2, .int o8_x3, .int o8_x4, .int o8_x5, .int o8_x6, .ref (ρ h0 7), .ref (ρ h0 8), .ref (ρ h0 9), .int o8_x10, .int o8_x11, .int o8_x12, .ref (ρ h0 13), .int o8_x14, .ref (ρ h0 15), .ref (ρ h0 16)]) := (k24 _ (tp_ne ht_h0 y3 (by decide))).trans hf_18
    refine tpk_pos (tp_in hG ht_h0 (by decide)) hf_27 (fun q28 eq28 => ?_)
    refine va_get (D := (dC, dI)) (ci := 5) (v := .int o8_x6) (C := RX5) (T := TX5) (N := 17) hx hb hts hfX5 hown hK hP q28 eq28 rfl 6 (by decide) (hts (.fieldLink RX5 59 "ColdShips$Ship" "orders" "I") wa_247) (fun _ h9 => h9) rfl dX5_addOrder_31 ?_
    refine lv_iconst (v := 1) hx hb dX5_addOrder_34 (by decide) ?_
    refine lv_iadd hx hb dX5_addOrder_35 ?_
    refine lv_topi (fun z29 ez29 => ?_)
    have iz29 : z29.toInt = o8_x6.toInt + 1 := zi_add ez29 rfl rfl (by omega) (by omega)
    refine va_put (D := (dC, dI)) (ci := 5) (v := .int z29) (ty := .int) (C := RX5) (T := TX5) (N := 17) hx hb hts hfX5 tyX5 tyX5_ok nmX5 hown hK hP hD hS q28 eq28 rfl 6 (by decide) (hts (.fieldLink RX5 59 "ColdShips$Ship" "orders" "I") wa_247) (fun _ h9 => h9) rfl (tyX5_ok 6 (by decide)) rfl rfl (Nat.le_of_ble_eq_true rfl) dX5_addOrder_36 (tp_k (.inr (5, [.ref (ρ h0 0), .int o8_x1, .int o8_x2, .int o8_x3, .int o8_x4, .int o8_x5, .int z29, .ref (ρ h0 7), .ref (ρ h0 8), .ref (ρ h0 9), .int o8_x10, .int o8_x11, .int o8_x12, .ref (ρ h0 13), .int o8_x14, .ref (ρ h0 15), .ref (ρ h0 16)])) hD (tp_in hG ht_h0 (by decide)) eq28 (fun f30 H locs hP hD hS g32 k31 => ?_))
    have hT := hT.up ht_h0 g32 k31 ⟨_, _, _, _, _, _, _, _, _, _, rfl, ro8_0, ro8_1, (by first | decide | omega | (omega))⟩
    have hR := hR.up ht_h0 (by decide) k31
    exact W.vret hx hb hr (fun t ht hW => ⟨⟨f30, rfl, ⟨hT, hR, trivial⟩, by rw [ht]; exact hP, va_K.moved hW.alike hK, hD⟩, hS.F ht⟩) hS.2.2 dX5_addOrder_39
set_option maxHeartbeats 4000000 in
set_option maxRecDepth 100000 in
theorem t_X5_endOrder (l : Launch) (dC : Nat → ClassId) (dI : Nat → Nat → Nat) (sz : Nat) (Ω : Nat → Nat → (Nat → Nat) → va_E → Prop) (κ : Nat → ClassId) (τ ν : Nat → Nat) (ρ : Nat → Nat → Nat) (L : List Nat) (f : Nat → va_E) (hG : tp_G τ ν ρ L) (hT : tp_T Ω κ τ ν ρ f) (h0 : Nat) (ht_h0 : τ h0 = 6) : Met l yX5_endOrder wqX5_endOrder ({ frames := 2, cells := 0, slots := 0, locals := 400 }) (va_Pc [.ref h0] (pz_B dC dI (tp_K κ) (va_pl L f) sz)) (va_Qv (fun (f1 : Nat → va_E) => tp_T Ω κ τ ν ρ f1 ∧ tp_F τ [6, 20] f f1 ∧ True) (fun (f1 : Nat → va_E) (t : State) => pz_E dC dI (tp_K κ) (va_A (va_pl L f) sz) (va_pl L f1) t) (va_A (va_pl L f) sz)) 0 0 (va_A (va_pl L f) sz) := by
  refine Met.ofW (cc := cX5_endOrder) (maxL := 1) (ret := none) (by decide) rfl ?_
  intro p e s m args below meth c s₁ B hml hv
  obtain ⟨rfl, hsz, hP, hK, hD0, hN⟩ := hv
  have hx := B.exec
  have hb := B.bytes
  have hr := B.returns
  have hts := fun (w : Cond) (h : w ∈ WALL) => atoms_spec (ws := wqX5_endOrder) B.pre w (List.mem_cons_of_mem _ h)
  have hown : s.vm.findClass RX5 = some m.cls := findClass_of_methodNamed B.named
  have hlocks := B.notSynchronized
  subst hsz
  have hD := hD0.self (sz := s.heap.size)
  generalize hAe : va_A (va_pl L f) s.heap.size = A at hD ⊢
  have hA : ∀ q : Nat, s.heap.size ≤ q → A q := fun q h => by rw [← hAe]; exact Or.inr h
  have hS : va_S A s.heap s.heap [] := va_S.rf
  have hR : tp_F τ [6, 20] f f := tp_F.rf
  have hl := lv_entry ([.ref h0]) (n := 1) (Nat.le_of_ble_eq_true rfl)
  rw [lg_entry_eq]
  generalize (lg_sl ([.ref h0]) ++ List.replicate (1 - (lg_sl ([.ref h0])).length) Slot.unset).toArray = ls at hl ⊢
  have hl : lv_has ls 1 [(0, .ref h0)] := hl
  refine lv_aload_n hx hb dX5_endOrder_0 rfl (lv_at hl 0 rfl) ?_
  refine tgk_6 hG ht_h0 (fun y1 y2 y2n y3 y3n y4 y4n y5 y5n y6 y6n y7 y7n => ?_)
  refine tpk_6 hT ht_h0 (fun o8_x1 o8_x2 o8_x3 o8_x4 o8_x5 o8_x6 o8_x10 o8_x11 o8_x12 o8_x14 hf_o8 ro8_0 ro8_1 ro8_2 => ?_)
  refine tpk_pos (tp_in hG ht_h0 (by decide)) hf_o8 (fun q9 eq9 => ?_)
  have ro8_2 := tp_hu ro8_2
  refine va_get (D := (dC, dI)) (ci := 5) (v := .int o8_x6) (C := RX5) (T := TX5) (N := 17) hx hb hts hfX5 hown hK hP q9 eq9 rfl 6 (by decide) (hts (.fieldLink RX5 59 "ColdShips$Ship" "orders" "I") wa_247) (fun _ h9 => h9) rfl dX5_endOrder_1 ?_
  refine lv_if_le (tgt := 51) hx hb dX5_endOrder_4 (by decide) (fun c10 => ?_) (fun c10 => ?_)
  · have ic10 : o8_x6.toInt ≤ 0 := zi_le rfl rfl c10
    exact W.vret hx hb hr (fun t ht hW => ⟨⟨f, rfl, ⟨hT, hR, trivial⟩, by rw [ht]; exact hP, va_K.moved hW.alike hK, hD⟩, hS.F ht⟩) hS.2.2 dX5_endOrder_51
  · have ic10 : o8_x6.toInt > 0 := zi_lef rfl rfl c10
    refine lv_aload_n hx hb dX5_endOrder_7 rfl (lv_at hl 0 rfl) ?_
    refine lv_dup hx hb dX5_endOrder_8 rfl ?_
    refine va_get (D := (dC, dI)) (ci := 5) (v := .int o8_x6) (C := RX5) (T := TX5) (N := 17) hx hb hts hfX5 hown hK hP q9 eq9 rfl 6 (by decide) (hts (.fieldLink RX5 59 "ColdShips$Ship" "orders" "I") wa_247) (fun _ h9 => h9) rfl dX5_endOrder_9 ?_
    refine lv_iconst (v := 1) hx hb dX5_endOrder_12 (by decide) ?_
    refine lv_isub hx hb dX5_endOrder_13 ?_
    refine lv_topi (fun z11 ez11 => ?_)
    have iz11 : z11.toInt = o8_x6.toInt - 1 := zi_sub ez11 rfl rfl (by omega) (by omega)
    refine va_put (D := (dC, dI)) (ci := 5) (v := .int z11) (ty := .int) (C := RX5) (T := TX5) (N := 17) hx hb hts hfX5 tyX5 tyX5_ok nmX5 hown hK hP hD hS q9 eq9 rfl 6 (by decide) (hts (.fieldLink RX5 59 "ColdShips$Ship" "orders" "I") wa_247) (fun _ h9 => h9) rfl (tyX5_ok 6 (by decide)) rfl rfl (Nat.le_of_ble_eq_true rfl) dX5_endOrder_14 (tp_k (.inr (5, [.ref (ρ h0 0), .int o8_x1, .int o8_x2, .int o8_x3, .int o8_x4, .int o8_x5, .int z11, .ref (ρ h0 7), .ref (ρ h0 8), .ref (ρ h0 9), .int o8_x10, .int o8_x11, .int o8_x12, .ref (ρ h0 13), .int o8_x14, .ref (ρ h0 15), .ref (ρ h0 16)])) hD (tp_in hG ht_h0 (by decide)) eq9 (fun f12 H locs hP hD hS g14 k13 => ?_))
    have hT := hT.up ht_h0 g14 k13 ⟨_, _, _, _, _, _, _, _, _, _, rfl, ro8_0, ro8_1, (by first | decide | omega | (omega))⟩
    have hR := hR.up ht_h0 (by decide) k13
    refine lv_aload_n hx hb dX5_endOrder_17 rfl (lv_at hl 0 rfl) ?_
    refine tpk_pos (tp_in hG ht_h0 (by decide)) g14 (fun q15 eq15 => ?_)
    refine va_get (D := (dC, dI)) (ci := 5) (v := .ref (ρ h0 7)) (C := RX5) (T := TX5) (N := 17) hx hb hts hfX5 hown hK hP q15 eq15 rfl 7 (by decide) (hts (.fieldLink RX5 18 "ColdShips$Ship" "orderSorts" "[I") wa_97) (fun _ h9 => h9) rfl dX5_endOrder_18 ?_
    refine lv_iconst (v := 1) hx hb dX5_endOrder_21 (by decide) ?_
    refine lv_aload_n hx hb dX5_endOrder_22 rfl (lv_at hl 0 rfl) ?_
    refine va_get (D := (dC, dI)) (ci := 5) (v := .ref (ρ h0 7)) (C := RX5) (T := TX5) (N := 17) hx hb hts hfX5 hown hK hP q15 eq15 rfl 7 (by decide) (hts (.fieldLink RX5 18 "ColdShips$Ship" "orderSorts" "[I") wa_97) (fun _ h9 => h9) rfl dX5_endOrder_23 ?_
    refine lv_iconst (v := 0) hx hb dX5_endOrder_26 (by decide) ?_
    refine lv_aload_n hx hb dX5_endOrder_27 rfl (lv_at hl 0 rfl) ?_
    refine va_get (D := (dC, dI)) (ci := 5) (v := .int z11) (C := RX5) (T := TX5) (N := 17) hx hb hts hfX5 hown hK hP q15 eq15 rfl 6 (by decide) (hts (.fieldLink RX5 59 "ColdShips$Ship" "orders" "I") wa_247) (fun _ h9 => h9) rfl dX5_endOrder_28 ?_
    refine tpk_20 hT y2 y2n (fun g17 hf_o16 => ?_)
    refine tpk_pos (tp_in hG y2 (by decide)) hf_o16 (fun q18 eq18 => ?_)
    refine va_copyi hx hb (by rw [hml]; exact hl.1.symm) hown (hts (.methodLink RX5 77 arraycopyName) wa_464) (hts (.native arraycopyName) wa_465) (hts (.static arraycopyName) wa_466) (hts (.initialized "java/lang/System") wa_467) hK hP hD hS q18 q18 0 0 eq18 eq18 rfl rfl rfl (by decide) (by decide) (zi_nn (by omega)) (zi_cp (show (1 : Int32).toInt = 1 from rfl) (rfl : z11.toInt = _) (by omega)) (zi_cp (show (0 : Int32).toInt = 0 from rfl) (rfl : z11.toInt = _) (by omega)) (fun _ _ => rfl) (Nat.le_of_ble_eq_true rfl) (Nat.le_of_ble_eq_true rfl) dX5_endOrder_31 (tp_k (.inl (κ 0, 20, .inl (va_cpy g17 g17 (1 : Int32).toNatClampNeg (0 : Int32).toNatClampNeg z11.toNatClampNeg))) hD (tp_in hG y2 (by decide)) eq18 (fun f19 H locs hP hD hS g21 k20 => ?_))
    have hT := hT.up y2 g21 k20 (tp_o20 y2n)
    have hR := hR.up y2 (by decide) k20
    generalize (va_cpy g17 g17 (1 : Int32).toNatClampNeg (0 : Int32).toNatClampNeg z11.toNatClampNeg) = g22 at g21
    refine lv_aload_n hx hb dX5_endOrder_34 rfl (lv_at hl 0 rfl) ?_
    have hf_23 : f19 h0 = .inr (5, [.ref (ρ h0 0), .int o8_x1, .int o8_x2, .int o8_x3, .int o8_x4, .int o8_x5, .int z11, .ref (ρ h0 7), .ref (ρ h0 8), .ref (ρ h0 9), .int o8_x10, .int o8_x11, .int o8_x12, .ref (ρ h0 13), .int o8_x14, .ref (ρ h0 15), .ref (ρ h0 16)]) := (k20 _ (tp_ne ht_h0 y2 (by decide))).trans g14
    refine tpk_pos (tp_in hG ht_h0 (by decide)) hf_23 (fun q24 eq24 => ?_)
    refine va_get (D := (dC, dI)) (ci := 5) (v := .ref (ρ h0 8)) (C := RX5) (T := TX5) (N := 17) hx hb hts hfX5 hown hK hP q24 eq24 rfl 8 (by decide) (hts (.fieldLink RX5 22 "ColdShips$Ship" "orderWhats" "[I") wa_98) (fun _ h9 => h9) rfl dX5_endOrder_35 ?_
    refine lv_iconst (v := 1) hx hb dX5_endOrder_38 (by decide) ?_
    refine lv_aload_n hx hb dX5_endOrder_39 rfl (lv_at hl 0 rfl) ?_
    refine va_get (D := (dC, dI)) (ci := 5) (v := .ref (ρ h0 8)) (C := RX5) (T := TX5) (N := 17) hx hb hts hfX5 hown hK hP q24 eq24 rfl 8 (by decide) (hts (.fieldLink RX5 22 "ColdShips$Ship" "orderWhats" "[I") wa_98) (fun _ h9 => h9) rfl dX5_endOrder_40 ?_
    refine lv_iconst (v := 0) hx hb dX5_endOrder_43 (by decide) ?_
    refine lv_aload_n hx hb dX5_endOrder_44 rfl (lv_at hl 0 rfl) ?_
    refine va_get (D := (dC, dI)) (ci := 5) (v := .int z11) (C := RX5) (T := TX5) (N := 17) hx hb hts hfX5 hown hK hP q24 eq24 rfl 6 (by decide) (hts (.fieldLink RX5 59 "ColdShips$Ship" "orders" "I") wa_247) (fun _ h9 => h9) rfl dX5_endOrder_45 ?_
    refine tpk_20 hT y3 y3n (fun g26 hf_o25 => ?_)
    refine tpk_pos (tp_in hG y3 (by decide)) hf_o25 (fun q27 eq27 => ?_)
    refine va_copyi hx hb (by rw [hml]; exact hl.1.symm) hown (hts (.methodLink RX5 77 arraycopyName) wa_464) (hts (.native arraycopyName) wa_465) (hts (.static arraycopyName) wa_466) (hts (.initialized "java/lang/System") wa_467) hK hP hD hS q27 q27 0 0 eq27 eq27 rfl rfl rfl (by decide) (by decide) (zi_nn (by omega)) (zi_cp (show (1 : Int32).toInt = 1 from rfl) (rfl : z11.toInt = _) (by omega)) (zi_cp (show (0 : Int32).toInt = 0 from rfl) (rfl : z11.toInt = _) (by omega)) (fun _ _ => rfl) (Nat.le_of_ble_eq_true rfl) (Nat.le_of_ble_eq_true rfl) dX5_endOrder_48 (tp_k (.inl (κ 0, 20, .inl (va_cpy g26 g26 (1 : Int32).toNatClampNeg (0 : Int32).toNatClampNeg z11.toNatClampNeg))) hD (tp_in hG y3 (by decide)) eq27 (fun f28 H locs hP hD hS g30 k29 => ?_))
    have hT := hT.up y3 g30 k29 (tp_o20 y3n)
    have hR := hR.up y3 (by decide) k29
    generalize (va_cpy g26 g26 (1 : Int32).toNatClampNeg (0 : Int32).toNatClampNeg z11.toNatClampNeg) = g31 at g30
    exact W.vret hx hb hr (fun t ht hW => ⟨⟨f28, rfl, ⟨hT, hR, trivial⟩, by rw [ht]; exact hP, va_K.moved hW.alike hK, hD⟩, hS.F ht⟩) hS.2.2 dX5_endOrder_51
set_option maxHeartbeats 4000000 in
set_option maxRecDepth 100000 in
theorem t_X5_tonsLeft (l : Launch) (dC : Nat → ClassId) (dI : Nat → Nat → Nat) (sz : Nat) (Ω : Nat → Nat → (Nat → Nat) → va_E → Prop) (κ : Nat → ClassId) (τ ν : Nat → Nat) (ρ : Nat → Nat → Nat) (L : List Nat) (f : Nat → va_E) (hG : tp_G τ ν ρ L) (hT : tp_T Ω κ τ ν ρ f) (h0 : Nat) (ht_h0 : τ h0 = 6) : Met l yX5_tonsLeft wqX5_tonsLeft ({ frames := 2, cells := 0, slots := 0, locals := 400 }) (va_Pc [.ref h0] (pz_B dC dI (tp_K κ) (va_pl L f) sz)) (vp_Si (fun r => True ∧ True)) 0 0 (fun _ => False) := by
  refine Met.ofW (cc := cX5_tonsLeft) (maxL := 2) (ret := some .int) (by decide) rfl ?_
  intro p e s m args below meth c s₁ B hml hv
  obtain ⟨rfl, hsz, hP, hK, hD0, hN⟩ := hv
  have hx := B.exec
  have hb := B.bytes
  have hr := B.returns
  have hts := fun (w : Cond) (h : w ∈ WALL) => atoms_spec (ws := wqX5_tonsLeft) B.pre w (List.mem_cons_of_mem _ h)
  have hown : s.vm.findClass RX5 = some m.cls := findClass_of_methodNamed B.named
  have hlocks := B.notSynchronized
  subst hsz
  have hD := hD0
  have hS : va_S (fun _ => True) s.heap s.heap [] := va_S.rf
  have hl := lv_entry ([.ref h0]) (n := 2) (Nat.le_of_ble_eq_true rfl)
  rw [lg_entry_eq]
  generalize (lg_sl ([.ref h0]) ++ List.replicate (2 - (lg_sl ([.ref h0])).length) Slot.unset).toArray = ls at hl ⊢
  have hl : lv_has ls 2 [(0, .ref h0)] := hl
  refine lv_aload_n hx hb dX5_tonsLeft_0 rfl (lv_at hl 0 rfl) ?_
  refine tgk_6 hG ht_h0 (fun y1 y2 y2n y3 y3n y4 y4n y5 y5n y6 y6n y7 y7n => ?_)
  refine tpk_6 hT ht_h0 (fun o8_x1 o8_x2 o8_x3 o8_x4 o8_x5 o8_x6 o8_x10 o8_x11 o8_x12 o8_x14 hf_o8 ro8_0 ro8_1 ro8_2 => ?_)
  refine tpk_pos (tp_in hG ht_h0 (by decide)) hf_o8 (fun q9 eq9 => ?_)
  have ro8_2 := tp_hu ro8_2
  refine va_get (D := (dC, dI)) (ci := 5) (v := .int o8_x6) (C := RX5) (T := TX5) (N := 17) hx hb hts hfX5 hown hK hP q9 eq9 rfl 6 (by decide) (hts (.fieldLink RX5 59 "ColdShips$Ship" "orders" "I") wa_247) (fun _ h9 => h9) rfl dX5_tonsLeft_1 ?_
  refine tp_join 32 (fun H locs ls stk => ∃ w10 : Int32, stk = [.int w10] ∧ (0 ≤ w10.toInt ∧ w10.toInt ≤ 1) ∧ H = s.heap ∧ locs = [] ∧ lv_has ls 2 [(0, .ref h0)]) ?_ (fun hj11 => ?_)
  · intro H locs ls stk hI
    refine Exists.elim hI (fun w10 hE90 => tn_5 hE90 (fun e90 rw10 e92 e93 hl => ?_))
    clear hE90 hI; subst e90; subst e92; subst e93
    refine lv_istore_n (lv' := [(1, .int w10), (0, .ref h0)]) hx hb dX5_tonsLeft_32 rfl hl (by decide) rfl (fun ls hl => ?_)
    refine lv_iload_n hx hb dX5_tonsLeft_33 rfl (lv_at hl 0 rfl) ?_
    refine lv_if_eq (tgt := 46) hx hb dX5_tonsLeft_34 (by decide) (fun c12 => ?_) (fun c12 => ?_)
    · have ic12 : w10.toInt = 0 := zi_eq rfl rfl c12
      refine lv_iconst (v := 0) hx hb dX5_tonsLeft_46 (by decide) ?_
      exact W.iret (v := 0) hx hb hr (fun t ht hW => ⟨0, rfl, ⟨trivial, trivial⟩, ht⟩) (fun _ h => by cases h) dX5_tonsLeft_47
    · have ic12 : w10.toInt ≠ 0 := zi_eqf rfl rfl c12
      refine lv_aload_n hx hb dX5_tonsLeft_37 rfl (lv_at hl 1 rfl) ?_
      refine va_get (D := (dC, dI)) (ci := 5) (v := .ref (ρ h0 8)) (C := RX5) (T := TX5) (N := 17) hx hb hts hfX5 hown hK hP q9 eq9 rfl 8 (by decide) (hts (.fieldLink RX5 22 "ColdShips$Ship" "orderWhats" "[I") wa_98) (fun _ h9 => h9) rfl dX5_tonsLeft_38 ?_
      refine lv_iconst (v := 0) hx hb dX5_tonsLeft_41 (by decide) ?_
      refine tpk_20 hT y3 y3n (fun g14 hf_o13 => ?_)
      refine tpk_pos (tp_in hG y3 (by decide)) hf_o13 (fun q15 eq15 => ?_)
      refine va_iald hx hb hK hP q15 0 eq15 rfl (vp_in_iff.mpr ⟨by decide, by decide⟩) dX5_tonsLeft_42 ?_
      refine lv_topi (fun z16 ez16 => ?_)
      refine lv_goto (tgt := 47) hx hb dX5_tonsLeft_43 (by decide) ?_
      exact W.iret (v := z16) hx hb hr (fun t ht hW => ⟨z16, rfl, ⟨trivial, trivial⟩, ht⟩) (fun _ h => by cases h) dX5_tonsLeft_47
  · refine lv_if_le (tgt := 31) hx hb dX5_tonsLeft_4 (by decide) (fun c17 => ?_) (fun c17 => ?_)
    · have ic17 : o8_x6.toInt ≤ 0 := zi_le rfl rfl c17
      refine lv_iconst (v := 0) hx hb dX5_tonsLeft_31 (by decide) ?_
      exact hj11 _ _ _ _ ⟨0, rfl, (by have : (0 : Int32).toInt = 0 := rfl; omega), rfl, rfl, lv_sub hl [0] rfl⟩
    · have ic17 : o8_x6.toInt > 0 := zi_lef rfl rfl c17
      refine lv_aload_n hx hb dX5_tonsLeft_7 rfl (lv_at hl 0 rfl) ?_
      refine va_get (D := (dC, dI)) (ci := 5) (v := .ref (ρ h0 7)) (C := RX5) (T := TX5) (N := 17) hx hb hts hfX5 hown hK hP q9 eq9 rfl 7 (by decide) (hts (.fieldLink RX5 18 "ColdShips$Ship" "orderSorts" "[I") wa_97) (fun _ h9 => h9) rfl dX5_tonsLeft_8 ?_
      refine lv_iconst (v := 0) hx hb dX5_tonsLeft_11 (by decide) ?_
      refine tpk_20 hT y2 y2n (fun g19 hf_o18 => ?_)
      refine tpk_pos (tp_in hG y2 (by decide)) hf_o18 (fun q20 eq20 => ?_)
      refine va_iald hx hb hK hP q20 0 eq20 rfl (vp_in_iff.mpr ⟨by decide, by decide⟩) dX5_tonsLeft_12 ?_
      refine lv_topi (fun z21 ez21 => ?_)
      refine lv_iconst (v := 1) hx hb dX5_tonsLeft_13 (by decide) ?_
      refine lv_icmp_eq (tgt := 27) hx hb dX5_tonsLeft_14 (by decide) (fun c22 => ?_) (fun c22 => ?_)
      · have ic22 : z21.toInt = 1 := zi_eq rfl rfl c22
        refine lv_iconst (v := 1) hx hb dX5_tonsLeft_27 (by decide) ?_
        refine lv_goto (tgt := 32) hx hb dX5_tonsLeft_28 (by decide) ?_
        exact hj11 _ _ _ _ ⟨1, rfl, (by have : (1 : Int32).toInt = 1 := rfl; omega), rfl, rfl, lv_sub hl [0] rfl⟩
      · have ic22 : z21.toInt ≠ 1 := zi_eqf rfl rfl c22
        refine lv_aload_n hx hb dX5_tonsLeft_17 rfl (lv_at hl 0 rfl) ?_
        refine va_get (D := (dC, dI)) (ci := 5) (v := .ref (ρ h0 7)) (C := RX5) (T := TX5) (N := 17) hx hb hts hfX5 hown hK hP q9 eq9 rfl 7 (by decide) (hts (.fieldLink RX5 18 "ColdShips$Ship" "orderSorts" "[I") wa_97) (fun _ h9 => h9) rfl dX5_tonsLeft_18 ?_
        refine lv_iconst (v := 0) hx hb dX5_tonsLeft_21 (by decide) ?_
        refine va_iald hx hb hK hP q20 0 eq20 rfl (vp_in_iff.mpr ⟨by decide, by decide⟩) dX5_tonsLeft_22 ?_
        refine lv_topi (fun z23 ez23 => ?_)
        refine lv_iconst (v := 2) hx hb dX5_tonsLeft_23 (by decide) ?_
        refine lv_icmp_ne (tgt := 31) hx hb dX5_tonsLeft_24 (by decide) (fun c24 => ?_) (fun c24 => ?_)
        · have ic24 : z23.toInt ≠ 2 := zi_ne rfl rfl c24
          refine lv_iconst (v := 0) hx hb dX5_tonsLeft_31 (by decide) ?_
          exact hj11 _ _ _ _ ⟨0, rfl, (by have : (0 : Int32).toInt = 0 := rfl; omega), rfl, rfl, lv_sub hl [0] rfl⟩
        · have ic24 : z23.toInt = 2 := zi_nef rfl rfl c24
          refine lv_iconst (v := 1) hx hb dX5_tonsLeft_27 (by decide) ?_
          refine lv_goto (tgt := 32) hx hb dX5_tonsLeft_28 (by decide) ?_
          exact hj11 _ _ _ _ ⟨1, rfl, (by have : (1 : Int32).toInt = 1 := rfl; omega), rfl, rfl, lv_sub hl [0] rfl⟩
set_option maxHeartbeats 4000000 in
set_option maxRecDepth 100000 in
theorem t_X5_burnFuel (l : Launch) (dC : Nat → ClassId) (dI : Nat → Nat → Nat) (sz : Nat) (Ω : Nat → Nat → (Nat → Nat) → va_E → Prop) (κ : Nat → ClassId) (τ ν : Nat → Nat) (ρ : Nat → Nat → Nat) (L : List Nat) (f : Nat → va_E) (hG : tp_G τ ν ρ L) (hT : tp_T Ω κ τ ν ρ f) (h0 : Nat) (a : Int32) (ht_h0 : τ h0 = 6) : Met l yX5_burnFuel wqX5_burnFuel ({ frames := 5, cells := 0, slots := 0, locals := 1600 }) (va_Pc [.ref h0, .int a] (pz_B dC dI (tp_K κ) (va_pl L f) sz)) (va_Qv (fun (f1 : Nat → va_E) => tp_T Ω κ τ ν ρ f1 ∧ tp_F τ [6, 8, 20, 21] f f1 ∧ True) (fun (f1 : Nat → va_E) (t : State) => pz_E dC dI (tp_K κ) (va_A (va_pl L f) sz) (va_pl L f1) t) (va_A (va_pl L f) sz)) 0 0 (va_A (va_pl L f) sz) := by
  refine Met.ofW (cc := cX5_burnFuel) (maxL := 3) (ret := none) (by decide) rfl ?_
  intro p e s m args below meth c s₁ B hml hv
  obtain ⟨rfl, hsz, hP, hK, hD0, hN⟩ := hv
  have hx := B.exec
  have hb := B.bytes
  have hr := B.returns
  have hts := fun (w : Cond) (h : w ∈ WALL) => atoms_spec (ws := wqX5_burnFuel) B.pre w (List.mem_cons_of_mem _ h)
  have hown : s.vm.findClass RX5 = some m.cls := findClass_of_methodNamed B.named
  have hlocks := B.notSynchronized
  subst hsz
  have hD := hD0.self (sz := s.heap.size)
  generalize hAe : va_A (va_pl L f) s.heap.size = A at hD ⊢
  have hA : ∀ q : Nat, s.heap.size ≤ q → A q := fun q h => by rw [← hAe]; exact Or.inr h
  have hS : va_S A s.heap s.heap [] := va_S.rf
  have hR : tp_F τ [6, 8, 20, 21] f f := tp_F.rf
  have hl := lv_entry ([.ref h0, .int a]) (n := 3) (Nat.le_of_ble_eq_true rfl)
  rw [lg_entry_eq]
  generalize (lg_sl ([.ref h0, .int a]) ++ List.replicate (3 - (lg_sl ([.ref h0, .int a])).length) Slot.unset).toArray = ls at hl ⊢
  have hl : lv_has ls 3 [(0, .ref h0), (1, .int a)] := hl
  refine lv_aload_n hx hb dX5_burnFuel_0 rfl (lv_at hl 0 rfl) ?_
  refine tgk_6 hG ht_h0 (fun y1 y2 y2n y3 y3n y4 y4n y5 y5n y6 y6n y7 y7n => ?_)
  refine tpk_6 hT ht_h0 (fun o8_x1 o8_x2 o8_x3 o8_x4 o8_x5 o8_x6 o8_x10 o8_x11 o8_x12 o8_x14 hf_o8 ro8_0 ro8_1 ro8_2 => ?_)
  refine tpk_pos (tp_in hG ht_h0 (by decide)) hf_o8 (fun q9 eq9 => ?_)
  refine va_get (D := (dC, dI)) (ci := 5) (v := .ref (ρ h0 0)) (C := RX5) (T := TX5) (N := 17) hx hb hts hfX5 hown hK hP q9 eq9 rfl 0 (by decide) (hts (.fieldLink RX5 12 "ColdShips$Ship" "tank" "LColdShips$Tank;") wa_96) (fun _ h9 => h9) rfl dX5_burnFuel_1 ?_
  refine lv_iload_n hx hb dX5_burnFuel_4 rfl (lv_at hl 1 rfl) ?_
  refine tgk_8 hG y1 (fun y10 y10n y11 y11n y12 y12n => ?_)
  refine tpk_8 hT y1 (fun o13_x0 o13_x1 o13_x2 o13_x3 hf_o13 ro13_0 => ?_)
  refine tpk_pos (tp_in hG y1 (by decide)) hf_o13 (fun q14 eq14 => ?_)
  have hFc := tp_fr hD hS hA
  refine va_calli (va_runV (As := [.int a]) (rest := []) ⟨hx, hb, hml, hown, hts⟩ (t_X7_burn l dC dI _ Ω κ τ ν ρ L f hG hT (ρ h0 0) a y1) (cwV 1 hts gX5_burnFuel_X7_burn rfl rfl rfl ⟨rfl, pd_X7_burn⟩ ⟨Nat.le_of_ble_eq_true rfl, Nat.le_of_ble_eq_true rfl⟩) ⟨pz_blind, va_recv hK hP (ci := 7) (q0 := q14) rfl eq14, pz_pre hP hK hD hN⟩ rfl rfl hl.1 rfl (lv_room (Nat.le_of_ble_eq_true rfl)) dX5_burnFuel_5 ⟨Nat.le_of_ble_eq_true rfl, Nat.le_of_ble_eq_true rfl⟩) hS (fun q _ h => hFc q h) hFc (fun r15 f17 t H1 locs ht hvm hw16 hB hz1 hk1 hS => ?_)
  refine tn_4 hw16 (fun hT hF18 hw16r hw16p => ?_); clear hw16
  have hR := hR.then hF18 (by decide)
  have hP := hB.1; rw [ht] at hP; have hD := tp_ad f17 hD; clear hB hFc hz1 hk1; subst ht; generalize t.heap = H at hP hS ⊢
  refine lv_istore_n (lv' := [(2, .int r15), (0, .ref h0), (1, .int a)]) hx hb dX5_burnFuel_8 rfl hl (by decide) rfl (fun ls hl => ?_)
  refine lv_aload_n hx hb dX5_burnFuel_9 rfl (lv_at hl 1 rfl) ?_
  refine lv_iload_n hx hb dX5_burnFuel_10 rfl (lv_at hl 0 rfl) ?_
  refine lv_iload_n hx hb dX5_burnFuel_11 rfl (lv_at hl 2 rfl) ?_
  refine tp_join 20 (fun H locs ls stk => ∃ w19 : Int32, stk = [.int w19, .ref h0] ∧ (0 ≤ w19.toInt ∧ w19.toInt ≤ 1) ∧ va_P (dC, dI) vwCl (va_pl L f17) H ∧ va_D A (va_pl L f17) ∧ va_S A s.heap H locs ∧ lv_has ls 3 [(2, .int r15), (0, .ref h0), (1, .int a)]) ?_ (fun hj20 => ?_)
  · intro H locs ls stk hI
    refine Exists.elim hI (fun w19 hE90 => tn_6 hE90 (fun e90 rw19 hP hD hS hl => ?_))
    clear hE90 hI; subst e90
    have hf_21 : f17 h0 = .inr (5, [.ref (ρ h0 0), .int o8_x1, .int o8_x2, .int o8_x3, .int o8_x4, .int o8_x5, .int o8_x6, .ref (ρ h0 7), .ref (ρ h0 8), .ref (ρ h0 9), .int o8_x10, .int o8_x11, .int o8_x12, .ref (ρ h0 13), .int o8_x14, .ref (ρ h0 15), .ref (ρ h0 16)]) := (hF18 _ (by rw [ht_h0]; decide)).trans hf_o8
    refine tpk_pos (tp_in hG ht_h0 (by decide)) hf_21 (fun q22 eq22 => ?_)
    refine va_put (D := (dC, dI)) (ci := 5) (v := .int w19) (ty := .boolean) (C := RX5) (T := TX5) (N := 17) hx hb hts hfX5 tyX5 tyX5_ok nmX5 hown hK hP hD hS q22 eq22 rfl 5 (by decide) (hts (.fieldLink RX5 55 "ColdShips$Ship" "drifting" "Z") wa_246) (fun _ h9 => h9) rfl (tyX5_ok 5 (by decide)) (zi_narZ (by omega) (by omega)) (zi_fitZ (by omega) (by omega)) (Nat.le_of_ble_eq_true rfl) dX5_burnFuel_20 (tp_k (.inr (5, [.ref (ρ h0 0), .int o8_x1, .int o8_x2, .int o8_x3, .int o8_x4, .int w19, .int o8_x6, .ref (ρ h0 7), .ref (ρ h0 8), .ref (ρ h0 9), .int o8_x10, .int o8_x11, .int o8_x12, .ref (ρ h0 13), .int o8_x14, .ref (ρ h0 15), .ref (ρ h0 16)])) hD (tp_in hG ht_h0 (by decide)) eq22 (fun f23 H locs hP hD hS g25 k24 => ?_))
    have hT := hT.up ht_h0 g25 k24 ⟨_, _, _, _, _, _, _, _, _, _, rfl, ro8_0, (by first | decide | omega | (omega)), ro8_2⟩
    have hR := hR.up ht_h0 (by decide) k24
    refine lv_aload_n hx hb dX5_burnFuel_23 rfl (lv_at hl 1 rfl) ?_
    refine tpk_pos (tp_in hG ht_h0 (by decide)) g25 (fun q26 eq26 => ?_)
    refine va_get (D := (dC, dI)) (ci := 5) (v := .ref (ρ h0 9)) (C := RX5) (T := TX5) (N := 17) hx hb hts hfX5 hown hK hP q26 eq26 rfl 9 (by decide) (hts (.fieldLink RX5 25 "ColdShips$Ship" "book" "[J") wa_99) (fun _ h9 => h9) rfl dX5_burnFuel_24 ?_
    refine lv_iconst (v := 1) hx hb dX5_burnFuel_27 (by decide) ?_
    refine lv_dup2_11 hx hb dX5_burnFuel_28 rfl rfl ?_
    refine tpk_21 hT y4 y4n (fun g28 hf_o27 => ?_)
    refine tpk_pos (tp_in hG y4 (by decide)) hf_o27 (fun q29 eq29 => ?_)
    refine va_lald hx hb hK hP q29 1 eq29 rfl (vp_in_iff.mpr ⟨by decide, by decide⟩) dX5_burnFuel_29 ?_
    refine lv_topl (fun z30 ez30 => ?_)
    refine lv_iload_n hx hb dX5_burnFuel_30 rfl (lv_at hl 0 rfl) ?_
    refine lv_i2l hx hb dX5_burnFuel_31 rfl ?_
    refine lv_ladd hx hb dX5_burnFuel_32 ?_
    refine lv_topl (fun z31 ez31 => ?_)
    refine va_last hx hb hK hP hD hS q29 1 eq29 rfl (vp_in_iff.mpr ⟨by decide, by decide⟩) dX5_burnFuel_33 (tp_k (.inl (κ 1, 4, .inr (.inl (vp_updL g28 (1 : Int32).toNatClampNeg z31)))) hD (tp_in hG y4 (by decide)) eq29 (fun f32 H locs hP hD hS g34 k33 => ?_))
    have hT := hT.up y4 g34 k33 (tp_o21 y4n)
    have hR := hR.up y4 (by decide) k33
    generalize (vp_updL g28 (1 : Int32).toNatClampNeg z31) = g35 at g34
    exact W.vret hx hb hr (fun t ht hW => ⟨⟨f32, rfl, ⟨hT, hR, trivial⟩, by rw [ht]; exact hP, va_K.moved hW.alike hK, hD⟩, hS.F ht⟩) hS.2.2 dX5_burnFuel_34
  · refine lv_icmp_ge (tgt := 19) hx hb dX5_burnFuel_12 (by decide) (fun c36 => ?_) (fun c36 => ?_)
    · have ic36 : r15.toInt ≥ a.toInt := zi_ge rfl rfl c36
      refine lv_iconst (v := 0) hx hb dX5_burnFuel_19 (by decide) ?_
      exact hj20 _ _ _ _ ⟨0, rfl, (by have : (0 : Int32).toInt = 0 := rfl; omega), hP, hD, hS, lv_sub hl [0, 1, 2] rfl⟩
    · have ic36 : r15.toInt < a.toInt := zi_gef rfl rfl c36
      refine lv_iconst (v := 1) hx hb dX5_burnFuel_15 (by decide) ?_
      refine lv_goto (tgt := 20) hx hb dX5_burnFuel_16 (by decide) ?_
      exact hj20 _ _ _ _ ⟨1, rfl, (by have : (1 : Int32).toInt = 1 := rfl; omega), hP, hD, hS, lv_sub hl [0, 1, 2] rfl⟩
set_option maxHeartbeats 4000000 in
set_option maxRecDepth 100000 in
theorem t_X5_putAshore (l : Launch) (dC : Nat → ClassId) (dI : Nat → Nat → Nat) (sz : Nat) (Ω : Nat → Nat → (Nat → Nat) → va_E → Prop) (κ : Nat → ClassId) (τ ν : Nat → Nat) (ρ : Nat → Nat → Nat) (L : List Nat) (f : Nat → va_E) (hG : tp_G τ ν ρ L) (hT : tp_T Ω κ τ ν ρ f) (h0 : Nat) (a : Int32) (b : Int32) (ht_h0 : τ h0 = 6) : Met l yX5_putAshore wqX5_putAshore ({ frames := 4, cells := 0, slots := 0, locals := 1200 }) (va_Pc [.ref h0, .int a, .int b] (pz_B dC dI (tp_K κ) (va_pl L f) sz)) (va_Qv (fun (f1 : Nat → va_E) => tp_T Ω κ τ ν ρ f1 ∧ tp_F τ [6, 8, 20, 21] f f1 ∧ True) (fun (f1 : Nat → va_E) (t : State) => pz_E dC dI (tp_K κ) (va_A (va_pl L f) sz) (va_pl L f1) t) (va_A (va_pl L f) sz)) 0 0 (va_A (va_pl L f) sz) := by
  refine Met.ofW (cc := cX5_putAshore) (maxL := 4) (ret := none) (by decide) rfl ?_
  intro p e s m args below meth c s₁ B hml hv
  obtain ⟨rfl, hsz, hP, hK, hD0, hN⟩ := hv
  have hx := B.exec
  have hb := B.bytes
  have hr := B.returns
  have hts := fun (w : Cond) (h : w ∈ WALL) => atoms_spec (ws := wqX5_putAshore) B.pre w (List.mem_cons_of_mem _ h)
  have hown : s.vm.findClass RX5 = some m.cls := findClass_of_methodNamed B.named
  have hlocks := B.notSynchronized
  subst hsz
  have hD := hD0.self (sz := s.heap.size)
  generalize hAe : va_A (va_pl L f) s.heap.size = A at hD ⊢
  have hA : ∀ q : Nat, s.heap.size ≤ q → A q := fun q h => by rw [← hAe]; exact Or.inr h
  have hS : va_S A s.heap s.heap [] := va_S.rf
  have hR : tp_F τ [6, 8, 20, 21] f f := tp_F.rf
  have hl := lv_entry ([.ref h0, .int a, .int b]) (n := 4) (Nat.le_of_ble_eq_true rfl)
  rw [lg_entry_eq]
  generalize (lg_sl ([.ref h0, .int a, .int b]) ++ List.replicate (4 - (lg_sl ([.ref h0, .int a, .int b])).length) Slot.unset).toArray = ls at hl ⊢
  have hl : lv_has ls 4 [(0, .ref h0), (1, .int a), (2, .int b)] := hl
  refine lv_aload_n hx hb dX5_putAshore_0 rfl (lv_at hl 0 rfl) ?_
  refine tgk_6 hG ht_h0 (fun y1 y2 y2n y3 y3n y4 y4n y5 y5n y6 y6n y7 y7n => ?_)
  refine tpk_6 hT ht_h0 (fun o8_x1 o8_x2 o8_x3 o8_x4 o8_x5 o8_x6 o8_x10 o8_x11 o8_x12 o8_x14 hf_o8 ro8_0 ro8_1 ro8_2 => ?_)
  refine tpk_pos (tp_in hG ht_h0 (by decide)) hf_o8 (fun q9 eq9 => ?_)
  refine va_get (D := (dC, dI)) (ci := 5) (v := .ref (ρ h0 0)) (C := RX5) (T := TX5) (N := 17) hx hb hts hfX5 hown hK hP q9 eq9 rfl 0 (by decide) (hts (.fieldLink RX5 12 "ColdShips$Ship" "tank" "LColdShips$Tank;") wa_96) (fun _ h9 => h9) rfl dX5_putAshore_1 ?_
  refine lv_iload_n hx hb dX5_putAshore_4 rfl (lv_at hl 1 rfl) ?_
  refine tgk_8 hG y1 (fun y10 y10n y11 y11n y12 y12n => ?_)
  refine tpk_8 hT y1 (fun o13_x0 o13_x1 o13_x2 o13_x3 hf_o13 ro13_0 => ?_)
  refine tpk_pos (tp_in hG y1 (by decide)) hf_o13 (fun q14 eq14 => ?_)
  have hFc := tp_fr hD hS hA
  refine va_callv (va_runV (As := [.int a]) (rest := []) ⟨hx, hb, hml, hown, hts⟩ (t_X7_takeGas l dC dI _ Ω κ τ ν ρ L f hG hT (ρ h0 0) a y1) (cwV 1 hts gX5_putAshore_X7_takeGas rfl rfl rfl ⟨rfl, pd_X7_takeGas⟩ ⟨Nat.le_of_ble_eq_true rfl, Nat.le_of_ble_eq_true rfl⟩) ⟨pz_blind, va_recv hK hP (ci := 7) (q0 := q14) rfl eq14, pz_pre hP hK hD hN⟩ rfl rfl hl.1 rfl (lv_room (Nat.le_of_ble_eq_true rfl)) dX5_putAshore_5 ⟨Nat.le_of_ble_eq_true rfl, Nat.le_of_ble_eq_true rfl⟩) hS (fun q _ h => hFc q h) hFc (fun f17 t H1 locs ht hvm hw16 hB hz1 hk1 hS => ?_)
  refine tn_3 hw16 (fun hT hF18 hw16p => ?_); clear hw16
  have hR := hR.then hF18 (by decide)
  have hP := hB.1; rw [ht] at hP; have hD := tp_ad f17 hD; clear hB hFc hz1 hk1; subst ht; generalize t.heap = H at hP hS ⊢
  refine lv_iconst (v := 0) hx hb dX5_putAshore_8 (by decide) ?_
  refine lv_istore_n (lv' := [(3, .int 0), (0, .ref h0), (1, .int a), (2, .int b)]) hx hb dX5_putAshore_9 rfl hl (by decide) rfl (fun ls hl => ?_)
  refine pz_loop (fun n0 H locs ls => ∃ f20 : Nat → va_E, ∃ w19 : Int32, n0 = (6 - (w19.toInt)).toNat ∧ tp_T Ω κ τ ν ρ f20 ∧ tp_F τ [6, 8, 20, 21] f f20 ∧ (0 ≤ w19.toInt ∧ w19.toInt ≤ 6) ∧ va_P (dC, dI) vwCl (va_pl L f20) H ∧ va_D A (va_pl L f20) ∧ va_S A s.heap H locs ∧ lv_has ls 4 [(3, .int w19), (0, .ref h0), (1, .int a), (2, .int b)]) ?_ _ _ _ _ ⟨f17, 0, rfl, hT, hR, (by have : (0 : Int32).toInt = 0 := rfl; omega), hP, hD, hS, lv_sub hl [0, 1, 2, 3] rfl⟩
  intro n0 H locs ls hI ih21
  refine Exists.elim hI (fun f20 hE90 => Exists.elim hE90 (fun w19 hE91 => tn_8 hE91 (fun hn22 hT hR rw19 hP hD hS hl => ?_)))
  clear hE91 hE90 hI
  refine lv_iload_n hx hb dX5_putAshore_10 rfl (lv_at hl 0 rfl) ?_
  refine lv_bipush (v := 6) hx hb dX5_putAshore_11 (by decide) ?_
  refine lv_icmp_ge (tgt := 40) hx hb dX5_putAshore_13 (by decide) (fun c23 => ?_) (fun c23 => ?_)
  · have ic23 : w19.toInt ≥ 6 := zi_ge rfl rfl c23
    refine lv_aload_n hx hb dX5_putAshore_40 rfl (lv_at hl 1 rfl) ?_
    refine tpk_6 hT ht_h0 (fun o24_x1 o24_x2 o24_x3 o24_x4 o24_x5 o24_x6 o24_x10 o24_x11 o24_x12 o24_x14 hf_o24 ro24_0 ro24_1 ro24_2 => ?_)
    refine tpk_pos (tp_in hG ht_h0 (by decide)) hf_o24 (fun q25 eq25 => ?_)
    refine va_get (D := (dC, dI)) (ci := 5) (v := .int o24_x12) (C := RX5) (T := TX5) (N := 17) hx hb hts hfX5 hown hK hP q25 eq25 rfl 12 (by decide) (hts (.fieldLink RX5 93 "ColdShips$Ship" "landTons" "I") wa_266) (fun _ h9 => h9) rfl dX5_putAshore_41 ?_
    refine tp_join 52 (fun H locs ls stk => ∃ f27 : Nat → va_E, stk = [] ∧ tp_T Ω κ τ ν ρ f27 ∧ tp_F τ [6, 8, 20, 21] f f27 ∧ va_P (dC, dI) vwCl (va_pl L f27) H ∧ va_D A (va_pl L f27) ∧ va_S A s.heap H locs ∧ lv_has ls 4 [(3, .int w19), (0, .ref h0), (1, .int a), (2, .int b)]) ?_ (fun hj26 => ?_)
    · intro H locs ls stk hI
      refine Exists.elim hI (fun f27 hE90 => tn_7 hE90 (fun e90 hT hR hP hD hS hl => ?_))
      clear hE90 hI; subst e90
      refine lv_aload_n hx hb dX5_putAshore_52 rfl (lv_at hl 1 rfl) ?_
      refine lv_iload_n hx hb dX5_putAshore_53 rfl (lv_at hl 3 rfl) ?_
      refine tpk_6 hT ht_h0 (fun o28_x1 o28_x2 o28_x3 o28_x4 o28_x5 o28_x6 o28_x10 o28_x11 o28_x12 o28_x14 hf_o28 ro28_0 ro28_1 ro28_2 => ?_)
      refine tpk_pos (tp_in hG ht_h0 (by decide)) hf_o28 (fun q29 eq29 => ?_)
      refine va_put (D := (dC, dI)) (ci := 5) (v := .int b) (ty := .int) (C := RX5) (T := TX5) (N := 17) hx hb hts hfX5 tyX5 tyX5_ok nmX5 hown hK hP hD hS q29 eq29 rfl 11 (by decide) (hts (.fieldLink RX5 99 "ColdShips$Ship" "landLast" "I") wa_506) (fun _ h9 => h9) rfl (tyX5_ok 11 (by decide)) rfl rfl (Nat.le_of_ble_eq_true rfl) dX5_putAshore_54 (tp_k (.inr (5, [.ref (ρ h0 0), .int o28_x1, .int o28_x2, .int o28_x3, .int o28_x4, .int o28_x5, .int o28_x6, .ref (ρ h0 7), .ref (ρ h0 8), .ref (ρ h0 9), .int o28_x10, .int b, .int o28_x12, .ref (ρ h0 13), .int o28_x14, .ref (ρ h0 15), .ref (ρ h0 16)])) hD (tp_in hG ht_h0 (by decide)) eq29 (fun f30 H locs hP hD hS g32 k31 => ?_))
      have hT := hT.up ht_h0 g32 k31 ⟨_, _, _, _, _, _, _, _, _, _, rfl, ro28_0, ro28_1, ro28_2⟩
      have hR := hR.up ht_h0 (by decide) k31
      refine lv_aload_n hx hb dX5_putAshore_57 rfl (lv_at hl 1 rfl) ?_
      refine lv_dup hx hb dX5_putAshore_58 rfl ?_
      refine tpk_pos (tp_in hG ht_h0 (by decide)) g32 (fun q33 eq33 => ?_)
      refine va_get (D := (dC, dI)) (ci := 5) (v := .int o28_x12) (C := RX5) (T := TX5) (N := 17) hx hb hts hfX5 hown hK hP q33 eq33 rfl 12 (by decide) (hts (.fieldLink RX5 93 "ColdShips$Ship" "landTons" "I") wa_266) (fun _ h9 => h9) rfl dX5_putAshore_59 ?_
      refine lv_iload_n hx hb dX5_putAshore_62 rfl (lv_at hl 2 rfl) ?_
      refine lv_iadd hx hb dX5_putAshore_63 ?_
      refine lv_topi (fun z34 ez34 => ?_)
      refine va_put (D := (dC, dI)) (ci := 5) (v := .int z34) (ty := .int) (C := RX5) (T := TX5) (N := 17) hx hb hts hfX5 tyX5 tyX5_ok nmX5 hown hK hP hD hS q33 eq33 rfl 12 (by decide) (hts (.fieldLink RX5 93 "ColdShips$Ship" "landTons" "I") wa_266) (fun _ h9 => h9) rfl (tyX5_ok 12 (by decide)) rfl rfl (Nat.le_of_ble_eq_true rfl) dX5_putAshore_64 (tp_k (.inr (5, [.ref (ρ h0 0), .int o28_x1, .int o28_x2, .int o28_x3, .int o28_x4, .int o28_x5, .int o28_x6, .ref (ρ h0 7), .ref (ρ h0 8), .ref (ρ h0 9), .int o28_x10, .int b, .int z34, .ref (ρ h0 13), .int o28_x14, .ref (ρ h0 15), .ref (ρ h0 16)])) hD (tp_in hG ht_h0 (by decide)) eq33 (fun f35 H locs hP hD hS g37 k36 => ?_))
      have hT := hT.up ht_h0 g37 k36 ⟨_, _, _, _, _, _, _, _, _, _, rfl, ro28_0, ro28_1, ro28_2⟩
      have hR := hR.up ht_h0 (by decide) k36
      refine lv_aload_n hx hb dX5_putAshore_67 rfl (lv_at hl 1 rfl) ?_
      refine tpk_pos (tp_in hG ht_h0 (by decide)) g37 (fun q38 eq38 => ?_)
      refine va_get (D := (dC, dI)) (ci := 5) (v := .ref (ρ h0 9)) (C := RX5) (T := TX5) (N := 17) hx hb hts hfX5 hown hK hP q38 eq38 rfl 9 (by decide) (hts (.fieldLink RX5 25 "ColdShips$Ship" "book" "[J") wa_99) (fun _ h9 => h9) rfl dX5_putAshore_68 ?_
      refine lv_iconst (v := 3) hx hb dX5_putAshore_71 (by decide) ?_
      refine lv_dup2_11 hx hb dX5_putAshore_72 rfl rfl ?_
      refine tpk_21 hT y4 y4n (fun g40 hf_o39 => ?_)
      refine tpk_pos (tp_in hG y4 (by decide)) hf_o39 (fun q41 eq41 => ?_)
      refine va_lald hx hb hK hP q41 1 eq41 rfl (vp_in_iff.mpr ⟨by decide, by decide⟩) dX5_putAshore_73 ?_
      refine lv_topl (fun z42 ez42 => ?_)
      refine lv_iload_n hx hb dX5_putAshore_74 rfl (lv_at hl 2 rfl) ?_
      refine lv_i2l hx hb dX5_putAshore_75 rfl ?_
      refine lv_ladd hx hb dX5_putAshore_76 ?_
      refine lv_topl (fun z43 ez43 => ?_)
      refine va_last hx hb hK hP hD hS q41 1 eq41 rfl (vp_in_iff.mpr ⟨by decide, by decide⟩) dX5_putAshore_77 (tp_k (.inl (κ 1, 4, .inr (.inl (vp_updL g40 (3 : Int32).toNatClampNeg z43)))) hD (tp_in hG y4 (by decide)) eq41 (fun f44 H locs hP hD hS g46 k45 => ?_))
      have hT := hT.up y4 g46 k45 (tp_o21 y4n)
      have hR := hR.up y4 (by decide) k45
      generalize (vp_updL g40 (3 : Int32).toNatClampNeg z43) = g47 at g46
      exact W.vret hx hb hr (fun t ht hW => ⟨⟨f44, rfl, ⟨hT, hR, trivial⟩, by rw [ht]; exact hP, va_K.moved hW.alike hK, hD⟩, hS.F ht⟩) hS.2.2 dX5_putAshore_78
    · refine lv_if_ne (tgt := 52) hx hb dX5_putAshore_44 (by decide) (fun c48 => ?_) (fun c48 => ?_)
      · have ic48 : o24_x12.toInt ≠ 0 := zi_ne rfl rfl c48
        exact hj26 _ _ _ _ ⟨f20, rfl, hT, hR, hP, hD, hS, lv_sub hl [0, 1, 2, 3] rfl⟩
      · have ic48 : o24_x12.toInt = 0 := zi_nef rfl rfl c48
        refine lv_aload_n hx hb dX5_putAshore_47 rfl (lv_at hl 1 rfl) ?_
        refine lv_iload_n hx hb dX5_putAshore_48 rfl (lv_at hl 3 rfl) ?_
        refine va_put (D := (dC, dI)) (ci := 5) (v := .int b) (ty := .int) (C := RX5) (T := TX5) (N := 17) hx hb hts hfX5 tyX5 tyX5_ok nmX5 hown hK hP hD hS q25 eq25 rfl 10 (by decide) (hts (.fieldLink RX5 96 "ColdShips$Ship" "landFirst" "I") wa_505) (fun _ h9 => h9) rfl (tyX5_ok 10 (by decide)) rfl rfl (Nat.le_of_ble_eq_true rfl) dX5_putAshore_49 (tp_k (.inr (5, [.ref (ρ h0 0), .int o24_x1, .int o24_x2, .int o24_x3, .int o24_x4, .int o24_x5, .int o24_x6, .ref (ρ h0 7), .ref (ρ h0 8), .ref (ρ h0 9), .int b, .int o24_x11, .int o24_x12, .ref (ρ h0 13), .int o24_x14, .ref (ρ h0 15), .ref (ρ h0 16)])) hD (tp_in hG ht_h0 (by decide)) eq25 (fun f49 H locs hP hD hS g51 k50 => ?_))
        have hT := hT.up ht_h0 g51 k50 ⟨_, _, _, _, _, _, _, _, _, _, rfl, ro24_0, ro24_1, ro24_2⟩
        have hR := hR.up ht_h0 (by decide) k50
        exact hj26 _ _ _ _ ⟨f49, rfl, hT, hR, hP, hD, hS, lv_sub hl [0, 1, 2, 3] rfl⟩
  · have ic23 : w19.toInt < 6 := zi_gef rfl rfl c23
    refine lv_aload_n hx hb dX5_putAshore_16 rfl (lv_at hl 1 rfl) ?_
    refine tpk_6 hT ht_h0 (fun o52_x1 o52_x2 o52_x3 o52_x4 o52_x5 o52_x6 o52_x10 o52_x11 o52_x12 o52_x14 hf_o52 ro52_0 ro52_1 ro52_2 => ?_)
    refine tpk_pos (tp_in hG ht_h0 (by decide)) hf_o52 (fun q53 eq53 => ?_)
    refine va_get (D := (dC, dI)) (ci := 5) (v := .ref (ρ h0 13)) (C := RX5) (T := TX5) (N := 17) hx hb hts hfX5 hown hK hP q53 eq53 rfl 13 (by decide) (hts (.fieldLink RX5 29 "ColdShips$Ship" "landParts" "[I") wa_100) (fun _ h9 => h9) rfl dX5_putAshore_17 ?_
    refine lv_iload_n hx hb dX5_putAshore_20 rfl (lv_at hl 0 rfl) ?_
    refine lv_dup2_11 hx hb dX5_putAshore_21 rfl rfl ?_
    refine tpk_20 hT y5 y5n (fun g55 hf_o54 => ?_)
    refine tpk_pos (tp_in hG y5 (by decide)) hf_o54 (fun q56 eq56 => ?_)
    refine va_iald hx hb hK hP q56 0 eq56 rfl (vp_in_iff.mpr ⟨by omega, by omega⟩) dX5_putAshore_22 ?_
    refine lv_topi (fun z57 ez57 => ?_)
    refine lv_aload_n hx hb dX5_putAshore_23 rfl (lv_at hl 1 rfl) ?_
    refine va_get (D := (dC, dI)) (ci := 5) (v := .ref (ρ h0 0)) (C := RX5) (T := TX5) (N := 17) hx hb hts hfX5 hown hK hP q53 eq53 rfl 0 (by decide) (hts (.fieldLink RX5 12 "ColdShips$Ship" "tank" "LColdShips$Tank;") wa_96) (fun _ h9 => h9) rfl dX5_putAshore_24 ?_
    refine tpk_8 hT y1 (fun o58_x0 o58_x1 o58_x2 o58_x3 hf_o58 ro58_0 => ?_)
    refine tpk_pos (tp_in hG y1 (by decide)) hf_o58 (fun q59 eq59 => ?_)
    refine va_getN (D := (dC, dI)) (ci := 7) (v := .ref (ρ (ρ h0 0) 5)) (C := RX7) (T := TX7) (N := 7) hx hb hts hfX7 hown hK hP q59 eq59 rfl 5 (by decide) (va_Nw.use rfl (hN.1 (.fieldLinkNest RX5 90 "ColdShips$Tank" "given" "[I" "ColdShips") nzw_20)) (fun _ h9 => h9) rfl dX5_putAshore_27 ?_
    refine lv_iload_n hx hb dX5_putAshore_30 rfl (lv_at hl 0 rfl) ?_
    refine tpk_20 hT y11 y11n (fun g61 hf_o60 => ?_)
    refine tpk_pos (tp_in hG y11 (by decide)) hf_o60 (fun q62 eq62 => ?_)
    refine va_iald hx hb hK hP q62 0 eq62 rfl (vp_in_iff.mpr ⟨by omega, by omega⟩) dX5_putAshore_31 ?_
    refine lv_topi (fun z63 ez63 => ?_)
    refine lv_iadd hx hb dX5_putAshore_32 ?_
    refine lv_topi (fun z64 ez64 => ?_)
    refine va_iast hx hb hK hP hD hS q56 0 eq56 rfl (vp_in_iff.mpr ⟨by omega, by omega⟩) dX5_putAshore_33 (tp_k (.inl (κ 0, 6, .inl (upd g55 w19.toNatClampNeg z64))) hD (tp_in hG y5 (by decide)) eq56 (fun f65 H locs hP hD hS g67 k66 => ?_))
    have hT := hT.up y5 g67 k66 (tp_o20 y5n)
    have hR := hR.up y5 (by decide) k66
    generalize (upd g55 w19.toNatClampNeg z64) = g68 at g67
    obtain ⟨z69, ez69⟩ : ∃ y : Int32, y = w19 + 1 := ⟨_, rfl⟩
    refine lv_iinc (v := z69) (lv' := [(3, .int z69), (0, .ref h0), (1, .int a), (2, .int b)]) hx hb dX5_putAshore_34 hl (k := 0) rfl (by rw [ez69]; rfl) (by decide) rfl (fun ls hl => ?_)
    have iz69 : z69.toInt = w19.toInt + 1 := zi_add ez69 rfl rfl (by omega) (by omega)
    refine lv_goto (tgt := 10) hx hb dX5_putAshore_37 (by decide) ?_
    exact ih21 _ _ _ _ (by rw [hn22]; omega) ⟨f65, z69, rfl, hT, hR, (by omega), hP, hD, hS, lv_sub hl [0, 1, 2, 3] rfl⟩
set_option maxHeartbeats 4000000 in
set_option maxRecDepth 100000 in
theorem t_X5_gaugeCounts (l : Launch) (dC : Nat → ClassId) (dI : Nat → Nat → Nat) (sz : Nat) (Ω : Nat → Nat → (Nat → Nat) → va_E → Prop) (κ : Nat → ClassId) (τ ν : Nat → Nat) (ρ : Nat → Nat → Nat) (L : List Nat) (f : Nat → va_E) (hG : tp_G τ ν ρ L) (hT : tp_T Ω κ τ ν ρ f) (h0 : Nat) (ht_h0 : τ h0 = 6) : Met l yX5_gaugeCounts wqX5_gaugeCounts ({ frames := 2, cells := 0, slots := 0, locals := 400 }) (va_Pc [.ref h0] (pz_B dC dI (tp_K κ) (va_pl L f) sz)) (vp_Si (fun r => (0 ≤ r.toInt ∧ r.toInt ≤ 1) ∧ True)) 0 0 (fun _ => False) := by
  refine Met.ofW (cc := cX5_gaugeCounts) (maxL := 2) (ret := some .boolean) (by decide) rfl ?_
  intro p e s m args below meth c s₁ B hml hv
  obtain ⟨rfl, hsz, hP, hK, hD0, hN⟩ := hv
  have hx := B.exec
  have hb := B.bytes
  have hr := B.returns
  have hts := fun (w : Cond) (h : w ∈ WALL) => atoms_spec (ws := wqX5_gaugeCounts) B.pre w (List.mem_cons_of_mem _ h)
  have hown : s.vm.findClass RX5 = some m.cls := findClass_of_methodNamed B.named
  have hlocks := B.notSynchronized
  subst hsz
  have hD := hD0
  have hS : va_S (fun _ => True) s.heap s.heap [] := va_S.rf
  have hl := lv_entry ([.ref h0]) (n := 2) (Nat.le_of_ble_eq_true rfl)
  rw [lg_entry_eq]
  generalize (lg_sl ([.ref h0]) ++ List.replicate (2 - (lg_sl ([.ref h0])).length) Slot.unset).toArray = ls at hl ⊢
  have hl : lv_has ls 2 [(0, .ref h0)] := hl
  refine lv_iconst (v := 0) hx hb dX5_gaugeCounts_0 (by decide) ?_
  refine lv_istore_n (lv' := [(1, .int 0), (0, .ref h0)]) hx hb dX5_gaugeCounts_1 rfl hl (by decide) rfl (fun ls hl => ?_)
  refine pz_loop (fun n0 H locs ls => ∃ w1 : Int32, n0 = (4 - (w1.toInt)).toNat ∧ (0 ≤ w1.toInt ∧ w1.toInt ≤ 4) ∧ H = s.heap ∧ locs = [] ∧ lv_has ls 2 [(1, .int w1), (0, .ref h0)]) ?_ _ _ _ _ ⟨0, rfl, (by have : (0 : Int32).toInt = 0 := rfl; omega), rfl, rfl, lv_sub hl [0, 1] rfl⟩
  intro n0 H locs ls hI ih2
  refine Exists.elim hI (fun w1 hE90 => tn_5 hE90 (fun hn3 rw1 e92 e93 hl => ?_))
  clear hE90 hI; subst e92; subst e93
  refine lv_iload_n hx hb dX5_gaugeCounts_2 rfl (lv_at hl 0 rfl) ?_
  refine lv_iconst (v := 4) hx hb dX5_gaugeCounts_3 (by decide) ?_
  refine lv_icmp_ge (tgt := 65) hx hb dX5_gaugeCounts_4 (by decide) (fun c4 => ?_) (fun c4 => ?_)
  · have ic4 : w1.toInt ≥ 4 := zi_ge rfl rfl c4
    refine lv_iconst (v := 1) hx hb dX5_gaugeCounts_65 (by decide) ?_
    exact W.zret (v := 1) hx hb hr rfl (fun t ht hW => ⟨1, rfl, ⟨(by first | decide | omega), trivial⟩, ht⟩) (fun _ h => by cases h) dX5_gaugeCounts_66
  · have ic4 : w1.toInt < 4 := zi_gef rfl rfl c4
    refine lv_aload_n hx hb dX5_gaugeCounts_7 rfl (lv_at hl 1 rfl) ?_
    refine tgk_6 hG ht_h0 (fun y5 y6 y6n y7 y7n y8 y8n y9 y9n y10 y10n y11 y11n => ?_)
    refine tpk_6 hT ht_h0 (fun o12_x1 o12_x2 o12_x3 o12_x4 o12_x5 o12_x6 o12_x10 o12_x11 o12_x12 o12_x14 hf_o12 ro12_0 ro12_1 ro12_2 => ?_)
    refine tpk_pos (tp_in hG ht_h0 (by decide)) hf_o12 (fun q13 eq13 => ?_)
    refine va_get (D := (dC, dI)) (ci := 5) (v := .ref (ρ h0 15)) (C := RX5) (T := TX5) (N := 17) hx hb hts hfX5 hown hK hP q13 eq13 rfl 15 (by decide) (hts (.fieldLink RX5 32 "ColdShips$Ship" "gaugeCentimetres" "[I") wa_101) (fun _ h9 => h9) rfl dX5_gaugeCounts_8 ?_
    refine lv_iload_n hx hb dX5_gaugeCounts_11 rfl (lv_at hl 0 rfl) ?_
    refine tpk_20 hT y10 y10n (fun g15 hf_o14 => ?_)
    refine tpk_pos (tp_in hG y10 (by decide)) hf_o14 (fun q16 eq16 => ?_)
    refine va_iald hx hb hK hP q16 0 eq16 rfl (vp_in_iff.mpr ⟨by omega, by omega⟩) dX5_gaugeCounts_12 ?_
    refine lv_topi (fun z17 ez17 => ?_)
    refine lv_iconst (v := (-1)) hx hb dX5_gaugeCounts_13 (by decide) ?_
    refine lv_icmp_ne (tgt := 19) hx hb dX5_gaugeCounts_14 (by decide) (fun c18 => ?_) (fun c18 => ?_)
    · have ic18 : z17.toInt ≠ (-1) := zi_ne rfl rfl c18
      refine lv_iload_n hx hb dX5_gaugeCounts_19 rfl (lv_at hl 0 rfl) ?_
      refine lv_if_le (tgt := 59) hx hb dX5_gaugeCounts_20 (by decide) (fun c19 => ?_) (fun c19 => ?_)
      · have ic19 : w1.toInt ≤ 0 := zi_le rfl rfl c19
        obtain ⟨z20, ez20⟩ : ∃ y : Int32, y = w1 + 1 := ⟨_, rfl⟩
        refine lv_iinc (v := z20) (lv' := [(1, .int z20), (0, .ref h0)]) hx hb dX5_gaugeCounts_59 hl (k := 0) rfl (by rw [ez20]; rfl) (by decide) rfl (fun ls hl => ?_)
        have iz20 : z20.toInt = w1.toInt + 1 := zi_add ez20 rfl rfl (by omega) (by omega)
        refine lv_goto (tgt := 2) hx hb dX5_gaugeCounts_62 (by decide) ?_
        exact ih2 _ _ _ _ (by rw [hn3]; omega) ⟨z20, rfl, (by omega), rfl, rfl, lv_sub hl [0, 1] rfl⟩
      · have ic19 : w1.toInt > 0 := zi_lef rfl rfl c19
        refine lv_aload_n hx hb dX5_gaugeCounts_23 rfl (lv_at hl 1 rfl) ?_
        refine va_get (D := (dC, dI)) (ci := 5) (v := .ref (ρ h0 15)) (C := RX5) (T := TX5) (N := 17) hx hb hts hfX5 hown hK hP q13 eq13 rfl 15 (by decide) (hts (.fieldLink RX5 32 "ColdShips$Ship" "gaugeCentimetres" "[I") wa_101) (fun _ h9 => h9) rfl dX5_gaugeCounts_24 ?_
        refine lv_iload_n hx hb dX5_gaugeCounts_27 rfl (lv_at hl 0 rfl) ?_
        refine va_iald hx hb hK hP q16 0 eq16 rfl (vp_in_iff.mpr ⟨by omega, by omega⟩) dX5_gaugeCounts_28 ?_
        refine lv_topi (fun z21 ez21 => ?_)
        refine lv_aload_n hx hb dX5_gaugeCounts_29 rfl (lv_at hl 1 rfl) ?_
        refine va_get (D := (dC, dI)) (ci := 5) (v := .ref (ρ h0 15)) (C := RX5) (T := TX5) (N := 17) hx hb hts hfX5 hown hK hP q13 eq13 rfl 15 (by decide) (hts (.fieldLink RX5 32 "ColdShips$Ship" "gaugeCentimetres" "[I") wa_101) (fun _ h9 => h9) rfl dX5_gaugeCounts_30 ?_
        refine lv_iload_n hx hb dX5_gaugeCounts_33 rfl (lv_at hl 0 rfl) ?_
        refine lv_iconst (v := 1) hx hb dX5_gaugeCounts_34 (by decide) ?_
        refine lv_isub hx hb dX5_gaugeCounts_35 ?_
        refine lv_topi (fun z22 ez22 => ?_)
        have iz22 : z22.toInt = w1.toInt - 1 := zi_sub ez22 rfl rfl (by omega) (by omega)
        refine va_iald hx hb hK hP q16 0 eq16 rfl (vp_in_iff.mpr ⟨by omega, by omega⟩) dX5_gaugeCounts_36 ?_
        refine lv_topi (fun z23 ez23 => ?_)
        refine lv_icmp_le (tgt := 57) hx hb dX5_gaugeCounts_37 (by decide) (fun c24 => ?_) (fun c24 => ?_)
        · have ic24 : z21.toInt ≤ z23.toInt := zi_le rfl rfl c24
          refine lv_iconst (v := 0) hx hb dX5_gaugeCounts_57 (by decide) ?_
          exact W.zret (v := 0) hx hb hr rfl (fun t ht hW => ⟨0, rfl, ⟨(by first | decide | omega), trivial⟩, ht⟩) (fun _ h => by cases h) dX5_gaugeCounts_58
        · have ic24 : z21.toInt > z23.toInt := zi_lef rfl rfl c24
          refine lv_aload_n hx hb dX5_gaugeCounts_40 rfl (lv_at hl 1 rfl) ?_
          refine va_get (D := (dC, dI)) (ci := 5) (v := .ref (ρ h0 16)) (C := RX5) (T := TX5) (N := 17) hx hb hts hfX5 hown hK hP q13 eq13 rfl 16 (by decide) (hts (.fieldLink RX5 35 "ColdShips$Ship" "gaugeTons" "[I") wa_102) (fun _ h9 => h9) rfl dX5_gaugeCounts_41 ?_
          refine lv_iload_n hx hb dX5_gaugeCounts_44 rfl (lv_at hl 0 rfl) ?_
          refine tpk_20 hT y11 y11n (fun g26 hf_o25 => ?_)
          refine tpk_pos (tp_in hG y11 (by decide)) hf_o25 (fun q27 eq27 => ?_)
          refine va_iald hx hb hK hP q27 0 eq27 rfl (vp_in_iff.mpr ⟨by omega, by omega⟩) dX5_gaugeCounts_45 ?_
          refine lv_topi (fun z28 ez28 => ?_)
          refine lv_aload_n hx hb dX5_gaugeCounts_46 rfl (lv_at hl 1 rfl) ?_
          refine va_get (D := (dC, dI)) (ci := 5) (v := .ref (ρ h0 16)) (C := RX5) (T := TX5) (N := 17) hx hb hts hfX5 hown hK hP q13 eq13 rfl 16 (by decide) (hts (.fieldLink RX5 35 "ColdShips$Ship" "gaugeTons" "[I") wa_102) (fun _ h9 => h9) rfl dX5_gaugeCounts_47 ?_
          refine lv_iload_n hx hb dX5_gaugeCounts_50 rfl (lv_at hl 0 rfl) ?_
          refine lv_iconst (v := 1) hx hb dX5_gaugeCounts_51 (by decide) ?_
          refine lv_isub hx hb dX5_gaugeCounts_52 ?_
          refine lv_topi (fun z29 ez29 => ?_)
          have iz29 : z29.toInt = w1.toInt - 1 := zi_sub ez29 rfl rfl (by omega) (by omega)
          refine va_iald hx hb hK hP q27 0 eq27 rfl (vp_in_iff.mpr ⟨by omega, by omega⟩) dX5_gaugeCounts_53 ?_
          refine lv_topi (fun z30 ez30 => ?_)
          refine lv_icmp_ge (tgt := 59) hx hb dX5_gaugeCounts_54 (by decide) (fun c31 => ?_) (fun c31 => ?_)
          · have ic31 : z28.toInt ≥ z30.toInt := zi_ge rfl rfl c31
            obtain ⟨z32, ez32⟩ : ∃ y : Int32, y = w1 + 1 := ⟨_, rfl⟩
            refine lv_iinc (v := z32) (lv' := [(1, .int z32), (0, .ref h0)]) hx hb dX5_gaugeCounts_59 hl (k := 0) rfl (by rw [ez32]; rfl) (by decide) rfl (fun ls hl => ?_)
            have iz32 : z32.toInt = w1.toInt + 1 := zi_add ez32 rfl rfl (by omega) (by omega)
            refine lv_goto (tgt := 2) hx hb dX5_gaugeCounts_62 (by decide) ?_
            exact ih2 _ _ _ _ (by rw [hn3]; omega) ⟨z32, rfl, (by omega), rfl, rfl, lv_sub hl [0, 1] rfl⟩
          · have ic31 : z28.toInt < z30.toInt := zi_gef rfl rfl c31
            refine lv_iconst (v := 0) hx hb dX5_gaugeCounts_57 (by decide) ?_
            exact W.zret (v := 0) hx hb hr rfl (fun t ht hW => ⟨0, rfl, ⟨(by first | decide | omega), trivial⟩, ht⟩) (fun _ h => by cases h) dX5_gaugeCounts_58
    · have ic18 : z17.toInt = (-1) := zi_nef rfl rfl c18
      refine lv_iconst (v := 0) hx hb dX5_gaugeCounts_17 (by decide) ?_
      exact W.zret (v := 0) hx hb hr rfl (fun t ht hW => ⟨0, rfl, ⟨(by first | decide | omega), trivial⟩, ht⟩) (fun _ h => by cases h) dX5_gaugeCounts_18
set_option maxHeartbeats 4000000 in
set_option maxRecDepth 100000 in
theorem t_X5_tonsAt (l : Launch) (dC : Nat → ClassId) (dI : Nat → Nat → Nat) (sz : Nat) (Ω : Nat → Nat → (Nat → Nat) → va_E → Prop) (κ : Nat → ClassId) (τ ν : Nat → Nat) (ρ : Nat → Nat → Nat) (L : List Nat) (f : Nat → va_E) (hG : tp_G τ ν ρ L) (hT : tp_T Ω κ τ ν ρ f) (h0 : Nat) (a : Int32) (ht_h0 : τ h0 = 6) : Met l yX5_tonsAt wqX5_tonsAt ({ frames := 2, cells := 0, slots := 0, locals := 400 }) (va_Pc [.ref h0, .int a] (pz_B dC dI (tp_K κ) (va_pl L f) sz)) (vp_Sl (fun r => True ∧ True)) 0 0 (fun _ => False) := by
  refine Met.ofW (cc := cX5_tonsAt) (maxL := 6) (ret := some .long) (by decide) rfl ?_
  intro p e s m args below meth c s₁ B hml hv
  obtain ⟨rfl, hsz, hP, hK, hD0, hN⟩ := hv
  have hx := B.exec
  have hb := B.bytes
  have hr := B.returns
  have hts := fun (w : Cond) (h : w ∈ WALL) => atoms_spec (ws := wqX5_tonsAt) B.pre w (List.mem_cons_of_mem _ h)
  have hown : s.vm.findClass RX5 = some m.cls := findClass_of_methodNamed B.named
  have hlocks := B.notSynchronized
  subst hsz
  have hD := hD0
  have hS : va_S (fun _ => True) s.heap s.heap [] := va_S.rf
  have hl := lv_entry ([.ref h0, .int a]) (n := 6) (Nat.le_of_ble_eq_true rfl)
  rw [lg_entry_eq]
  generalize (lg_sl ([.ref h0, .int a]) ++ List.replicate (6 - (lg_sl ([.ref h0, .int a])).length) Slot.unset).toArray = ls at hl ⊢
  have hl : lv_has ls 6 [(0, .ref h0), (1, .int a)] := hl
  refine lv_iload_n hx hb dX5_tonsAt_0 rfl (lv_at hl 1 rfl) ?_
  refine lv_aload_n hx hb dX5_tonsAt_1 rfl (lv_at hl 0 rfl) ?_
  refine tgk_6 hG ht_h0 (fun y1 y2 y2n y3 y3n y4 y4n y5 y5n y6 y6n y7 y7n => ?_)
  refine tpk_6 hT ht_h0 (fun o8_x1 o8_x2 o8_x3 o8_x4 o8_x5 o8_x6 o8_x10 o8_x11 o8_x12 o8_x14 hf_o8 ro8_0 ro8_1 ro8_2 => ?_)
  refine tpk_pos (tp_in hG ht_h0 (by decide)) hf_o8 (fun q9 eq9 => ?_)
  refine va_get (D := (dC, dI)) (ci := 5) (v := .ref (ρ h0 15)) (C := RX5) (T := TX5) (N := 17) hx hb hts hfX5 hown hK hP q9 eq9 rfl 15 (by decide) (hts (.fieldLink RX5 32 "ColdShips$Ship" "gaugeCentimetres" "[I") wa_101) (fun _ h9 => h9) rfl dX5_tonsAt_2 ?_
  refine lv_iconst (v := 0) hx hb dX5_tonsAt_5 (by decide) ?_
  refine tpk_20 hT y6 y6n (fun g11 hf_o10 => ?_)
  refine tpk_pos (tp_in hG y6 (by decide)) hf_o10 (fun q12 eq12 => ?_)
  refine va_iald hx hb hK hP q12 0 eq12 rfl (vp_in_iff.mpr ⟨by decide, by decide⟩) dX5_tonsAt_6 ?_
  refine lv_topi (fun z13 ez13 => ?_)
  refine lv_icmp_gt (tgt := 18) hx hb dX5_tonsAt_7 (by decide) (fun c14 => ?_) (fun c14 => ?_)
  · have ic14 : a.toInt > z13.toInt := zi_gt rfl rfl c14
    refine lv_iconst (v := 1) hx hb dX5_tonsAt_18 (by decide) ?_
    refine lv_istore_n (lv' := [(2, .int 1), (0, .ref h0), (1, .int a)]) hx hb dX5_tonsAt_19 rfl hl (by decide) rfl (fun ls hl => ?_)
    refine pz_loop (fun n0 H locs ls => ∃ w15 : Int32, n0 = (4 - (w15.toInt)).toNat ∧ (1 ≤ w15.toInt ∧ w15.toInt ≤ 4) ∧ H = s.heap ∧ locs = [] ∧ lv_has ls 6 [(2, .int w15), (0, .ref h0), (1, .int a)]) ?_ _ _ _ _ ⟨1, rfl, (by have : (1 : Int32).toInt = 1 := rfl; omega), rfl, rfl, lv_sub hl [0, 1, 2] rfl⟩
    intro n0 H locs ls hI ih16
    refine Exists.elim hI (fun w15 hE90 => tn_5 hE90 (fun hn17 rw15 e92 e93 hl => ?_))
    clear hE90 hI; subst e92; subst e93
    refine lv_iload_n hx hb dX5_tonsAt_20 rfl (lv_at hl 0 rfl) ?_
    refine lv_iconst (v := 4) hx hb dX5_tonsAt_21 (by decide) ?_
    refine lv_icmp_ge (tgt := 107) hx hb dX5_tonsAt_22 (by decide) (fun c18 => ?_) (fun c18 => ?_)
    · have ic18 : w15.toInt ≥ 4 := zi_ge rfl rfl c18
      refine lv_aload_n hx hb dX5_tonsAt_107 rfl (lv_at hl 1 rfl) ?_
      refine va_get (D := (dC, dI)) (ci := 5) (v := .ref (ρ h0 16)) (C := RX5) (T := TX5) (N := 17) hx hb hts hfX5 hown hK hP q9 eq9 rfl 16 (by decide) (hts (.fieldLink RX5 35 "ColdShips$Ship" "gaugeTons" "[I") wa_102) (fun _ h9 => h9) rfl dX5_tonsAt_108 ?_
      refine lv_iconst (v := 3) hx hb dX5_tonsAt_111 (by decide) ?_
      refine tpk_20 hT y7 y7n (fun g20 hf_o19 => ?_)
      refine tpk_pos (tp_in hG y7 (by decide)) hf_o19 (fun q21 eq21 => ?_)
      refine va_iald hx hb hK hP q21 0 eq21 rfl (vp_in_iff.mpr ⟨by decide, by decide⟩) dX5_tonsAt_112 ?_
      refine lv_topi (fun z22 ez22 => ?_)
      refine lv_i2l hx hb dX5_tonsAt_113 rfl ?_
      exact W.lret (v := z22.toInt64) hx hb hr (fun t ht hW => ⟨z22.toInt64, rfl, ⟨trivial, trivial⟩, ht⟩) (fun _ h => by cases h) dX5_tonsAt_114
    · have ic18 : w15.toInt < 4 := zi_gef rfl rfl c18
      refine lv_aload_n hx hb dX5_tonsAt_25 rfl (lv_at hl 1 rfl) ?_
      refine va_get (D := (dC, dI)) (ci := 5) (v := .ref (ρ h0 15)) (C := RX5) (T := TX5) (N := 17) hx hb hts hfX5 hown hK hP q9 eq9 rfl 15 (by decide) (hts (.fieldLink RX5 32 "ColdShips$Ship" "gaugeCentimetres" "[I") wa_101) (fun _ h9 => h9) rfl dX5_tonsAt_26 ?_
      refine lv_iload_n hx hb dX5_tonsAt_29 rfl (lv_at hl 0 rfl) ?_
      refine va_iald hx hb hK hP q12 0 eq12 rfl (vp_in_iff.mpr ⟨by omega, by omega⟩) dX5_tonsAt_30 ?_
      refine lv_topi (fun z23 ez23 => ?_)
      refine lv_aload_n hx hb dX5_tonsAt_31 rfl (lv_at hl 1 rfl) ?_
      refine va_get (D := (dC, dI)) (ci := 5) (v := .ref (ρ h0 15)) (C := RX5) (T := TX5) (N := 17) hx hb hts hfX5 hown hK hP q9 eq9 rfl 15 (by decide) (hts (.fieldLink RX5 32 "ColdShips$Ship" "gaugeCentimetres" "[I") wa_101) (fun _ h9 => h9) rfl dX5_tonsAt_32 ?_
      refine lv_iload_n hx hb dX5_tonsAt_35 rfl (lv_at hl 0 rfl) ?_
      refine lv_iconst (v := 1) hx hb dX5_tonsAt_36 (by decide) ?_
      refine lv_isub hx hb dX5_tonsAt_37 ?_
      refine lv_topi (fun z24 ez24 => ?_)
      have iz24 : z24.toInt = w15.toInt - 1 := zi_sub ez24 rfl rfl (by omega) (by omega)
      refine va_iald hx hb hK hP q12 0 eq12 rfl (vp_in_iff.mpr ⟨by omega, by omega⟩) dX5_tonsAt_38 ?_
      refine lv_topi (fun z25 ez25 => ?_)
      refine lv_isub hx hb dX5_tonsAt_39 ?_
      refine lv_topi (fun z26 ez26 => ?_)
      refine lv_istore_n (lv' := [(3, .int z26), (2, .int w15), (0, .ref h0), (1, .int a)]) hx hb dX5_tonsAt_40 rfl hl (by decide) rfl (fun ls hl => ?_)
      refine lv_iload_n hx hb dX5_tonsAt_41 rfl (lv_at hl 3 rfl) ?_
      refine lv_aload_n hx hb dX5_tonsAt_42 rfl (lv_at hl 2 rfl) ?_
      refine va_get (D := (dC, dI)) (ci := 5) (v := .ref (ρ h0 15)) (C := RX5) (T := TX5) (N := 17) hx hb hts hfX5 hown hK hP q9 eq9 rfl 15 (by decide) (hts (.fieldLink RX5 32 "ColdShips$Ship" "gaugeCentimetres" "[I") wa_101) (fun _ h9 => h9) rfl dX5_tonsAt_43 ?_
      refine lv_iload_n hx hb dX5_tonsAt_46 rfl (lv_at hl 1 rfl) ?_
      refine va_iald hx hb hK hP q12 0 eq12 rfl (vp_in_iff.mpr ⟨by omega, by omega⟩) dX5_tonsAt_47 ?_
      refine lv_topi (fun z27 ez27 => ?_)
      refine lv_icmp_ge (tgt := 101) hx hb dX5_tonsAt_48 (by decide) (fun c28 => ?_) (fun c28 => ?_)
      · have ic28 : a.toInt ≥ z27.toInt := zi_ge rfl rfl c28
        obtain ⟨z29, ez29⟩ : ∃ y : Int32, y = w15 + 1 := ⟨_, rfl⟩
        refine lv_iinc (v := z29) (lv' := [(2, .int z29), (3, .int z26), (0, .ref h0), (1, .int a)]) hx hb dX5_tonsAt_101 hl (k := 1) rfl (by rw [ez29]; rfl) (by decide) rfl (fun ls hl => ?_)
        have iz29 : z29.toInt = w15.toInt + 1 := zi_add ez29 rfl rfl (by omega) (by omega)
        refine lv_goto (tgt := 20) hx hb dX5_tonsAt_104 (by decide) ?_
        exact ih16 _ _ _ _ (by rw [hn17]; omega) ⟨z29, rfl, (by omega), rfl, rfl, lv_sub hl [0, 2, 3] rfl⟩
      · have ic28 : a.toInt < z27.toInt := zi_gef rfl rfl c28
        refine lv_iload_n hx hb dX5_tonsAt_51 rfl (lv_at hl 0 rfl) ?_
        refine lv_if_le (tgt := 101) hx hb dX5_tonsAt_52 (by decide) (fun c30 => ?_) (fun c30 => ?_)
        · have ic30 : z26.toInt ≤ 0 := zi_le rfl rfl c30
          obtain ⟨z31, ez31⟩ : ∃ y : Int32, y = w15 + 1 := ⟨_, rfl⟩
          refine lv_iinc (v := z31) (lv' := [(2, .int z31), (3, .int z26), (0, .ref h0), (1, .int a)]) hx hb dX5_tonsAt_101 hl (k := 1) rfl (by rw [ez31]; rfl) (by decide) rfl (fun ls hl => ?_)
          have iz31 : z31.toInt = w15.toInt + 1 := zi_add ez31 rfl rfl (by omega) (by omega)
          refine lv_goto (tgt := 20) hx hb dX5_tonsAt_104 (by decide) ?_
          exact ih16 _ _ _ _ (by rw [hn17]; omega) ⟨z31, rfl, (by omega), rfl, rfl, lv_sub hl [0, 2, 3] rfl⟩
        · have ic30 : z26.toInt > 0 := zi_lef rfl rfl c30
          refine lv_aload_n hx hb dX5_tonsAt_55 rfl (lv_at hl 2 rfl) ?_
          refine va_get (D := (dC, dI)) (ci := 5) (v := .ref (ρ h0 16)) (C := RX5) (T := TX5) (N := 17) hx hb hts hfX5 hown hK hP q9 eq9 rfl 16 (by decide) (hts (.fieldLink RX5 35 "ColdShips$Ship" "gaugeTons" "[I") wa_102) (fun _ h9 => h9) rfl dX5_tonsAt_56 ?_
          refine lv_iload_n hx hb dX5_tonsAt_59 rfl (lv_at hl 1 rfl) ?_
          refine tpk_20 hT y7 y7n (fun g33 hf_o32 => ?_)
          refine tpk_pos (tp_in hG y7 (by decide)) hf_o32 (fun q34 eq34 => ?_)
          refine va_iald hx hb hK hP q34 0 eq34 rfl (vp_in_iff.mpr ⟨by omega, by omega⟩) dX5_tonsAt_60 ?_
          refine lv_topi (fun z35 ez35 => ?_)
          refine lv_aload_n hx hb dX5_tonsAt_61 rfl (lv_at hl 2 rfl) ?_
          refine va_get (D := (dC, dI)) (ci := 5) (v := .ref (ρ h0 16)) (C := RX5) (T := TX5) (N := 17) hx hb hts hfX5 hown hK hP q9 eq9 rfl 16 (by decide) (hts (.fieldLink RX5 35 "ColdShips$Ship" "gaugeTons" "[I") wa_102) (fun _ h9 => h9) rfl dX5_tonsAt_62 ?_
          refine lv_iload_n hx hb dX5_tonsAt_65 rfl (lv_at hl 1 rfl) ?_
          refine lv_iconst (v := 1) hx hb dX5_tonsAt_66 (by decide) ?_
          refine lv_isub hx hb dX5_tonsAt_67 ?_
          refine lv_topi (fun z36 ez36 => ?_)
          have iz36 : z36.toInt = w15.toInt - 1 := zi_sub ez36 rfl rfl (by omega) (by omega)
          refine va_iald hx hb hK hP q34 0 eq34 rfl (vp_in_iff.mpr ⟨by omega, by omega⟩) dX5_tonsAt_68 ?_
          refine lv_topi (fun z37 ez37 => ?_)
          refine lv_isub hx hb dX5_tonsAt_69 ?_
          refine lv_topi (fun z38 ez38 => ?_)
          refine lv_i2l hx hb dX5_tonsAt_70 rfl ?_
          refine lv_lstore (lv' := [(4, .long z38.toInt64), (3, .int z26), (2, .int w15), (0, .ref h0), (1, .int a)]) hx hb dX5_tonsAt_71 hl (by decide) rfl (fun ls hl => ?_)
          refine lv_aload_n hx hb dX5_tonsAt_73 rfl (lv_at hl 3 rfl) ?_
          refine va_get (D := (dC, dI)) (ci := 5) (v := .ref (ρ h0 16)) (C := RX5) (T := TX5) (N := 17) hx hb hts hfX5 hown hK hP q9 eq9 rfl 16 (by decide) (hts (.fieldLink RX5 35 "ColdShips$Ship" "gaugeTons" "[I") wa_102) (fun _ h9 => h9) rfl dX5_tonsAt_74 ?_
          refine lv_iload_n hx hb dX5_tonsAt_77 rfl (lv_at hl 2 rfl) ?_
          refine lv_iconst (v := 1) hx hb dX5_tonsAt_78 (by decide) ?_
          refine lv_isub hx hb dX5_tonsAt_79 ?_
          refine lv_topi (fun z39 ez39 => ?_)
          have iz39 : z39.toInt = w15.toInt - 1 := zi_sub ez39 rfl rfl (by omega) (by omega)
          refine va_iald hx hb hK hP q34 0 eq34 rfl (vp_in_iff.mpr ⟨by omega, by omega⟩) dX5_tonsAt_80 ?_
          refine lv_topi (fun z40 ez40 => ?_)
          refine lv_i2l hx hb dX5_tonsAt_81 rfl ?_
          refine lv_lload hx hb dX5_tonsAt_82 (lv_at hl 0 rfl) ?_
          refine lv_iload_n hx hb dX5_tonsAt_84 rfl (lv_at hl 4 rfl) ?_
          refine lv_aload_n hx hb dX5_tonsAt_85 rfl (lv_at hl 3 rfl) ?_
          refine va_get (D := (dC, dI)) (ci := 5) (v := .ref (ρ h0 15)) (C := RX5) (T := TX5) (N := 17) hx hb hts hfX5 hown hK hP q9 eq9 rfl 15 (by decide) (hts (.fieldLink RX5 32 "ColdShips$Ship" "gaugeCentimetres" "[I") wa_101) (fun _ h9 => h9) rfl dX5_tonsAt_86 ?_
          refine lv_iload_n hx hb dX5_tonsAt_89 rfl (lv_at hl 2 rfl) ?_
          refine lv_iconst (v := 1) hx hb dX5_tonsAt_90 (by decide) ?_
          refine lv_isub hx hb dX5_tonsAt_91 ?_
          refine lv_topi (fun z41 ez41 => ?_)
          have iz41 : z41.toInt = w15.toInt - 1 := zi_sub ez41 rfl rfl (by omega) (by omega)
          refine va_iald hx hb hK hP q12 0 eq12 rfl (vp_in_iff.mpr ⟨by omega, by omega⟩) dX5_tonsAt_92 ?_
          refine lv_topi (fun z42 ez42 => ?_)
          refine lv_isub hx hb dX5_tonsAt_93 ?_
          refine lv_topi (fun z43 ez43 => ?_)
          refine lv_i2l hx hb dX5_tonsAt_94 rfl ?_
          refine lv_lmul hx hb dX5_tonsAt_95 ?_
          refine lv_topl (fun z44 ez44 => ?_)
          refine lv_iload_n hx hb dX5_tonsAt_96 rfl (lv_at hl 1 rfl) ?_
          refine lv_i2l hx hb dX5_tonsAt_97 rfl ?_
          refine lv_ldiv hx hb dX5_tonsAt_98 (zl_nz (by omega) (Int32.toInt_toInt64 z26)) ?_
          refine lv_topl (fun z45 ez45 => ?_)
          refine lv_ladd hx hb dX5_tonsAt_99 ?_
          refine lv_topl (fun z46 ez46 => ?_)
          exact W.lret (v := z46) hx hb hr (fun t ht hW => ⟨z46, rfl, ⟨trivial, trivial⟩, ht⟩) (fun _ h => by cases h) dX5_tonsAt_100
  · have ic14 : a.toInt ≤ z13.toInt := zi_gtf rfl rfl c14
    refine lv_aload_n hx hb dX5_tonsAt_10 rfl (lv_at hl 0 rfl) ?_
    refine va_get (D := (dC, dI)) (ci := 5) (v := .ref (ρ h0 16)) (C := RX5) (T := TX5) (N := 17) hx hb hts hfX5 hown hK hP q9 eq9 rfl 16 (by decide) (hts (.fieldLink RX5 35 "ColdShips$Ship" "gaugeTons" "[I") wa_102) (fun _ h9 => h9) rfl dX5_tonsAt_11 ?_
    refine lv_iconst (v := 0) hx hb dX5_tonsAt_14 (by decide) ?_
    refine tpk_20 hT y7 y7n (fun g48 hf_o47 => ?_)
    refine tpk_pos (tp_in hG y7 (by decide)) hf_o47 (fun q49 eq49 => ?_)
    refine va_iald hx hb hK hP q49 0 eq49 rfl (vp_in_iff.mpr ⟨by decide, by decide⟩) dX5_tonsAt_15 ?_
    refine lv_topi (fun z50 ez50 => ?_)
    refine lv_i2l hx hb dX5_tonsAt_16 rfl ?_
    exact W.lret (v := z50.toInt64) hx hb hr (fun t ht hW => ⟨z50.toInt64, rfl, ⟨trivial, trivial⟩, ht⟩) (fun _ h => by cases h) dX5_tonsAt_17
set_option maxHeartbeats 4000000 in
set_option maxRecDepth 100000 in
theorem t_X5_copyFrom (l : Launch) (dC : Nat → ClassId) (dI : Nat → Nat → Nat) (sz : Nat) (Ω : Nat → Nat → (Nat → Nat) → va_E → Prop) (κ : Nat → ClassId) (τ ν : Nat → Nat) (ρ : Nat → Nat → Nat) (L : List Nat) (f : Nat → va_E) (hG : tp_G τ ν ρ L) (hT : tp_T Ω κ τ ν ρ f) (h0 : Nat) (h1 : Nat) (ht_h0 : τ h0 = 6) (ht_h1 : τ h1 = 6) : Met l yX5_copyFrom wqX5_copyFrom ({ frames := 3, cells := 0, slots := 0, locals := 800 }) (va_Pc [.ref h0, .ref h1] (pz_B dC dI (tp_K κ) (va_pl L f) sz)) (va_Qv (fun (f1 : Nat → va_E) => tp_T Ω κ τ ν ρ f1 ∧ tp_F τ [6, 8, 20, 21] f f1 ∧ True) (fun (f1 : Nat → va_E) (t : State) => pz_E dC dI (tp_K κ) (va_A (va_pl L f) sz) (va_pl L f1) t) (va_A (va_pl L f) sz)) 0 0 (va_A (va_pl L f) sz) := by
  refine Met.ofW (cc := cX5_copyFrom) (maxL := 2) (ret := none) (by decide) rfl ?_
  intro p e s m args below meth c s₁ B hml hv
  obtain ⟨rfl, hsz, hP, hK, hD0, hN⟩ := hv
  have hx := B.exec
  have hb := B.bytes
  have hr := B.returns
  have hts := fun (w : Cond) (h : w ∈ WALL) => atoms_spec (ws := wqX5_copyFrom) B.pre w (List.mem_cons_of_mem _ h)
  have hown : s.vm.findClass RX5 = some m.cls := findClass_of_methodNamed B.named
  have hlocks := B.notSynchronized
  subst hsz
  have hD := hD0.self (sz := s.heap.size)
  generalize hAe : va_A (va_pl L f) s.heap.size = A at hD ⊢
  have hA : ∀ q : Nat, s.heap.size ≤ q → A q := fun q h => by rw [← hAe]; exact Or.inr h
  have hS : va_S A s.heap s.heap [] := va_S.rf
  have hR : tp_F τ [6, 8, 20, 21] f f := tp_F.rf
  have hl := lv_entry ([.ref h0, .ref h1]) (n := 2) (Nat.le_of_ble_eq_true rfl)
  rw [lg_entry_eq]
  generalize (lg_sl ([.ref h0, .ref h1]) ++ List.replicate (2 - (lg_sl ([.ref h0, .ref h1])).length) Slot.unset).toArray = ls at hl ⊢
  have hl : lv_has ls 2 [(0, .ref h0), (1, .ref h1)] := hl
  refine lv_aload_n hx hb dX5_copyFrom_0 rfl (lv_at hl 0 rfl) ?_
  refine tgk_6 hG ht_h0 (fun y1 y2 y2n y3 y3n y4 y4n y5 y5n y6 y6n y7 y7n => ?_)
  refine tpk_6 hT ht_h0 (fun o8_x1 o8_x2 o8_x3 o8_x4 o8_x5 o8_x6 o8_x10 o8_x11 o8_x12 o8_x14 hf_o8 ro8_0 ro8_1 ro8_2 => ?_)
  refine tpk_pos (tp_in hG ht_h0 (by decide)) hf_o8 (fun q9 eq9 => ?_)
  refine va_get (D := (dC, dI)) (ci := 5) (v := .ref (ρ h0 0)) (C := RX5) (T := TX5) (N := 17) hx hb hts hfX5 hown hK hP q9 eq9 rfl 0 (by decide) (hts (.fieldLink RX5 12 "ColdShips$Ship" "tank" "LColdShips$Tank;") wa_96) (fun _ h9 => h9) rfl dX5_copyFrom_1 ?_
  refine lv_aload_n hx hb dX5_copyFrom_4 rfl (lv_at hl 1 rfl) ?_
  refine tgk_6 hG ht_h1 (fun y10 y11 y11n y12 y12n y13 y13n y14 y14n y15 y15n y16 y16n => ?_)
  refine tpk_6 hT ht_h1 (fun o17_x1 o17_x2 o17_x3 o17_x4 o17_x5 o17_x6 o17_x10 o17_x11 o17_x12 o17_x14 hf_o17 ro17_0 ro17_1 ro17_2 => ?_)
  refine tpk_pos (tp_in hG ht_h1 (by decide)) hf_o17 (fun q18 eq18 => ?_)
  refine va_get (D := (dC, dI)) (ci := 5) (v := .ref (ρ h1 0)) (C := RX5) (T := TX5) (N := 17) hx hb hts hfX5 hown hK hP q18 eq18 rfl 0 (by decide) (hts (.fieldLink RX5 12 "ColdShips$Ship" "tank" "LColdShips$Tank;") wa_96) (fun _ h9 => h9) rfl dX5_copyFrom_5 ?_
  refine tgk_8 hG y1 (fun y19 y19n y20 y20n y21 y21n => ?_)
  refine tpk_8 hT y1 (fun o22_x0 o22_x1 o22_x2 o22_x3 hf_o22 ro22_0 => ?_)
  refine tpk_pos (tp_in hG y1 (by decide)) hf_o22 (fun q23 eq23 => ?_)
  have hFc := tp_fr hD hS hA
  refine va_callv (va_runV (As := [.ref (ρ h1 0)]) (rest := []) ⟨hx, hb, hml, hown, hts⟩ (t_X7_copyFrom l dC dI _ Ω κ τ ν ρ L f hG hT (ρ h0 0) (ρ h1 0) y1 y10) (cwV 1 hts gX5_copyFrom_X7_copyFrom rfl rfl rfl ⟨rfl, pd_X7_copyFrom⟩ ⟨Nat.le_of_ble_eq_true rfl, Nat.le_of_ble_eq_true rfl⟩) ⟨pz_blind, va_recv hK hP (ci := 7) (q0 := q23) rfl eq23, pz_pre hP hK hD hN⟩ rfl rfl hl.1 rfl (lv_room (Nat.le_of_ble_eq_true rfl)) dX5_copyFrom_8 ⟨Nat.le_of_ble_eq_true rfl, Nat.le_of_ble_eq_true rfl⟩) hS (fun q _ h => hFc q h) hFc (fun f26 t H1 locs ht hvm hw25 hB hz1 hk1 hS => ?_)
  refine tn_3 hw25 (fun hT hF27 hw25p => ?_); clear hw25
  have hR := hR.then hF27 (by decide)
  have hP := hB.1; rw [ht] at hP; have hD := tp_ad f26 hD; clear hB hFc hz1 hk1; subst ht; generalize t.heap = H at hP hS ⊢
  refine lv_aload_n hx hb dX5_copyFrom_11 rfl (lv_at hl 0 rfl) ?_
  refine lv_aload_n hx hb dX5_copyFrom_12 rfl (lv_at hl 1 rfl) ?_
  have hf_28 : f26 h1 = .inr (5, [.ref (ρ h1 0), .int o17_x1, .int o17_x2, .int o17_x3, .int o17_x4, .int o17_x5, .int o17_x6, .ref (ρ h1 7), .ref (ρ h1 8), .ref (ρ h1 9), .int o17_x10, .int o17_x11, .int o17_x12, .ref (ρ h1 13), .int o17_x14, .ref (ρ h1 15), .ref (ρ h1 16)]) := (hF27 _ (by rw [ht_h1]; decide)).trans hf_o17
  refine tpk_pos (tp_in hG ht_h1 (by decide)) hf_28 (fun q29 eq29 => ?_)
  refine va_get (D := (dC, dI)) (ci := 5) (v := .int o17_x1) (C := RX5) (T := TX5) (N := 17) hx hb hts hfX5 hown hK hP q29 eq29 rfl 1 (by decide) (hts (.fieldLink RX5 42 "ColdShips$Ship" "fuel" "I") wa_242) (fun _ h9 => h9) rfl dX5_copyFrom_13 ?_
  have hf_30 : f26 h0 = .inr (5, [.ref (ρ h0 0), .int o8_x1, .int o8_x2, .int o8_x3, .int o8_x4, .int o8_x5, .int o8_x6, .ref (ρ h0 7), .ref (ρ h0 8), .ref (ρ h0 9), .int o8_x10, .int o8_x11, .int o8_x12, .ref (ρ h0 13), .int o8_x14, .ref (ρ h0 15), .ref (ρ h0 16)]) := (hF27 _ (by rw [ht_h0]; decide)).trans hf_o8
  refine tpk_pos (tp_in hG ht_h0 (by decide)) hf_30 (fun q31 eq31 => ?_)
  refine va_put (D := (dC, dI)) (ci := 5) (v := .int o17_x1) (ty := .int) (C := RX5) (T := TX5) (N := 17) hx hb hts hfX5 tyX5 tyX5_ok nmX5 hown hK hP hD hS q31 eq31 rfl 1 (by decide) (hts (.fieldLink RX5 42 "ColdShips$Ship" "fuel" "I") wa_242) (fun _ h9 => h9) rfl (tyX5_ok 1 (by decide)) rfl rfl (Nat.le_of_ble_eq_true rfl) dX5_copyFrom_16 (tp_k (.inr (5, [.ref (ρ h0 0), .int o17_x1, .int o8_x2, .int o8_x3, .int o8_x4, .int o8_x5, .int o8_x6, .ref (ρ h0 7), .ref (ρ h0 8), .ref (ρ h0 9), .int o8_x10, .int o8_x11, .int o8_x12, .ref (ρ h0 13), .int o8_x14, .ref (ρ h0 15), .ref (ρ h0 16)])) hD (tp_in hG ht_h0 (by decide)) eq31 (fun f32 H locs hP hD hS g34 k33 => ?_))
  have hT := hT.up ht_h0 g34 k33 ⟨_, _, _, _, _, _, _, _, _, _, rfl, ro8_0, ro8_1, ro8_2⟩
  have hR := hR.up ht_h0 (by decide) k33
  refine lv_aload_n hx hb dX5_copyFrom_19 rfl (lv_at hl 0 rfl) ?_
  refine lv_aload_n hx hb dX5_copyFrom_20 rfl (lv_at hl 1 rfl) ?_
  refine tpk_6 hT ht_h1 (fun o35_x1 o35_x2 o35_x3 o35_x4 o35_x5 o35_x6 o35_x10 o35_x11 o35_x12 o35_x14 hf_o35 ro35_0 ro35_1 ro35_2 => ?_)
  refine tpk_pos (tp_in hG ht_h1 (by decide)) hf_o35 (fun q36 eq36 => ?_)
  have ro35_0 := tp_hu ro35_0
  refine va_get (D := (dC, dI)) (ci := 5) (v := .int o35_x2) (C := RX5) (T := TX5) (N := 17) hx hb hts hfX5 hown hK hP q36 eq36 rfl 2 (by decide) (hts (.fieldLink RX5 46 "ColdShips$Ship" "where" "I") wa_243) (fun _ h9 => h9) rfl dX5_copyFrom_21 ?_
  refine tpk_pos (tp_in hG ht_h0 (by decide)) g34 (fun q37 eq37 => ?_)
  refine va_put (D := (dC, dI)) (ci := 5) (v := .int o35_x2) (ty := .int) (C := RX5) (T := TX5) (N := 17) hx hb hts hfX5 tyX5 tyX5_ok nmX5 hown hK hP hD hS q37 eq37 rfl 2 (by decide) (hts (.fieldLink RX5 46 "ColdShips$Ship" "where" "I") wa_243) (fun _ h9 => h9) rfl (tyX5_ok 2 (by decide)) rfl rfl (Nat.le_of_ble_eq_true rfl) dX5_copyFrom_24 (tp_k (.inr (5, [.ref (ρ h0 0), .int o17_x1, .int o35_x2, .int o8_x3, .int o8_x4, .int o8_x5, .int o8_x6, .ref (ρ h0 7), .ref (ρ h0 8), .ref (ρ h0 9), .int o8_x10, .int o8_x11, .int o8_x12, .ref (ρ h0 13), .int o8_x14, .ref (ρ h0 15), .ref (ρ h0 16)])) hD (tp_in hG ht_h0 (by decide)) eq37 (fun f38 H locs hP hD hS g40 k39 => ?_))
  have hT := hT.up ht_h0 g40 k39 ⟨_, _, _, _, _, _, _, _, _, _, rfl, ro35_0, ro8_1, ro8_2⟩
  have hR := hR.up ht_h0 (by decide) k39
  refine lv_aload_n hx hb dX5_copyFrom_27 rfl (lv_at hl 0 rfl) ?_
  refine lv_aload_n hx hb dX5_copyFrom_28 rfl (lv_at hl 1 rfl) ?_
  refine tpk_6 hT ht_h1 (fun o41_x1 o41_x2 o41_x3 o41_x4 o41_x5 o41_x6 o41_x10 o41_x11 o41_x12 o41_x14 hf_o41 ro41_0 ro41_1 ro41_2 => ?_)
  refine tpk_pos (tp_in hG ht_h1 (by decide)) hf_o41 (fun q42 eq42 => ?_)
  refine va_get (D := (dC, dI)) (ci := 5) (v := .int o41_x3) (C := RX5) (T := TX5) (N := 17) hx hb hts hfX5 hown hK hP q42 eq42 rfl 3 (by decide) (hts (.fieldLink RX5 49 "ColdShips$Ship" "left" "I") wa_244) (fun _ h9 => h9) rfl dX5_copyFrom_29 ?_
  refine tpk_pos (tp_in hG ht_h0 (by decide)) g40 (fun q43 eq43 => ?_)
  refine va_put (D := (dC, dI)) (ci := 5) (v := .int o41_x3) (ty := .int) (C := RX5) (T := TX5) (N := 17) hx hb hts hfX5 tyX5 tyX5_ok nmX5 hown hK hP hD hS q43 eq43 rfl 3 (by decide) (hts (.fieldLink RX5 49 "ColdShips$Ship" "left" "I") wa_244) (fun _ h9 => h9) rfl (tyX5_ok 3 (by decide)) rfl rfl (Nat.le_of_ble_eq_true rfl) dX5_copyFrom_32 (tp_k (.inr (5, [.ref (ρ h0 0), .int o17_x1, .int o35_x2, .int o41_x3, .int o8_x4, .int o8_x5, .int o8_x6, .ref (ρ h0 7), .ref (ρ h0 8), .ref (ρ h0 9), .int o8_x10, .int o8_x11, .int o8_x12, .ref (ρ h0 13), .int o8_x14, .ref (ρ h0 15), .ref (ρ h0 16)])) hD (tp_in hG ht_h0 (by decide)) eq43 (fun f44 H locs hP hD hS g46 k45 => ?_))
  have hT := hT.up ht_h0 g46 k45 ⟨_, _, _, _, _, _, _, _, _, _, rfl, ro35_0, ro8_1, ro8_2⟩
  have hR := hR.up ht_h0 (by decide) k45
  refine lv_aload_n hx hb dX5_copyFrom_35 rfl (lv_at hl 0 rfl) ?_
  refine lv_aload_n hx hb dX5_copyFrom_36 rfl (lv_at hl 1 rfl) ?_
  refine tpk_6 hT ht_h1 (fun o47_x1 o47_x2 o47_x3 o47_x4 o47_x5 o47_x6 o47_x10 o47_x11 o47_x12 o47_x14 hf_o47 ro47_0 ro47_1 ro47_2 => ?_)
  refine tpk_pos (tp_in hG ht_h1 (by decide)) hf_o47 (fun q48 eq48 => ?_)
  refine va_get (D := (dC, dI)) (ci := 5) (v := .int o47_x4) (C := RX5) (T := TX5) (N := 17) hx hb hts hfX5 hown hK hP q48 eq48 rfl 4 (by decide) (hts (.fieldLink RX5 52 "ColdShips$Ship" "half" "I") wa_245) (fun _ h9 => h9) rfl dX5_copyFrom_37 ?_
  refine tpk_pos (tp_in hG ht_h0 (by decide)) g46 (fun q49 eq49 => ?_)
  refine va_put (D := (dC, dI)) (ci := 5) (v := .int o47_x4) (ty := .int) (C := RX5) (T := TX5) (N := 17) hx hb hts hfX5 tyX5 tyX5_ok nmX5 hown hK hP hD hS q49 eq49 rfl 4 (by decide) (hts (.fieldLink RX5 52 "ColdShips$Ship" "half" "I") wa_245) (fun _ h9 => h9) rfl (tyX5_ok 4 (by decide)) rfl rfl (Nat.le_of_ble_eq_true rfl) dX5_copyFrom_40 (tp_k (.inr (5, [.ref (ρ h0 0), .int o17_x1, .int o35_x2, .int o41_x3, .int o47_x4, .int o8_x5, .int o8_x6, .ref (ρ h0 7), .ref (ρ h0 8), .ref (ρ h0 9), .int o8_x10, .int o8_x11, .int o8_x12, .ref (ρ h0 13), .int o8_x14, .ref (ρ h0 15), .ref (ρ h0 16)])) hD (tp_in hG ht_h0 (by decide)) eq49 (fun f50 H locs hP hD hS g52 k51 => ?_))
  have hT := hT.up ht_h0 g52 k51 ⟨_, _, _, _, _, _, _, _, _, _, rfl, ro35_0, ro8_1, ro8_2⟩
  have hR := hR.up ht_h0 (by decide) k51
  refine lv_aload_n hx hb dX5_copyFrom_43 rfl (lv_at hl 0 rfl) ?_
  refine lv_aload_n hx hb dX5_copyFrom_44 rfl (lv_at hl 1 rfl) ?_
  refine tpk_6 hT ht_h1 (fun o53_x1 o53_x2 o53_x3 o53_x4 o53_x5 o53_x6 o53_x10 o53_x11 o53_x12 o53_x14 hf_o53 ro53_0 ro53_1 ro53_2 => ?_)
  refine tpk_pos (tp_in hG ht_h1 (by decide)) hf_o53 (fun q54 eq54 => ?_)
  have ro53_1 := tp_hu ro53_1
  refine va_get (D := (dC, dI)) (ci := 5) (v := .int o53_x5) (C := RX5) (T := TX5) (N := 17) hx hb hts hfX5 hown hK hP q54 eq54 rfl 5 (by decide) (hts (.fieldLink RX5 55 "ColdShips$Ship" "drifting" "Z") wa_246) (fun _ h9 => h9) rfl dX5_copyFrom_45 ?_
  refine tpk_pos (tp_in hG ht_h0 (by decide)) g52 (fun q55 eq55 => ?_)
  refine va_put (D := (dC, dI)) (ci := 5) (v := .int o53_x5) (ty := .boolean) (C := RX5) (T := TX5) (N := 17) hx hb hts hfX5 tyX5 tyX5_ok nmX5 hown hK hP hD hS q55 eq55 rfl 5 (by decide) (hts (.fieldLink RX5 55 "ColdShips$Ship" "drifting" "Z") wa_246) (fun _ h9 => h9) rfl (tyX5_ok 5 (by decide)) (zi_narZ (by omega) (by omega)) (zi_fitZ (by omega) (by omega)) (Nat.le_of_ble_eq_true rfl) dX5_copyFrom_48 (tp_k (.inr (5, [.ref (ρ h0 0), .int o17_x1, .int o35_x2, .int o41_x3, .int o47_x4, .int o53_x5, .int o8_x6, .ref (ρ h0 7), .ref (ρ h0 8), .ref (ρ h0 9), .int o8_x10, .int o8_x11, .int o8_x12, .ref (ρ h0 13), .int o8_x14, .ref (ρ h0 15), .ref (ρ h0 16)])) hD (tp_in hG ht_h0 (by decide)) eq55 (fun f56 H locs hP hD hS g58 k57 => ?_))
  have hT := hT.up ht_h0 g58 k57 ⟨_, _, _, _, _, _, _, _, _, _, rfl, ro35_0, ro53_1, ro8_2⟩
  have hR := hR.up ht_h0 (by decide) k57
  refine lv_aload_n hx hb dX5_copyFrom_51 rfl (lv_at hl 0 rfl) ?_
  refine lv_aload_n hx hb dX5_copyFrom_52 rfl (lv_at hl 1 rfl) ?_
  refine tpk_6 hT ht_h1 (fun o59_x1 o59_x2 o59_x3 o59_x4 o59_x5 o59_x6 o59_x10 o59_x11 o59_x12 o59_x14 hf_o59 ro59_0 ro59_1 ro59_2 => ?_)
  refine tpk_pos (tp_in hG ht_h1 (by decide)) hf_o59 (fun q60 eq60 => ?_)
  have ro59_2 := tp_hu ro59_2
  refine va_get (D := (dC, dI)) (ci := 5) (v := .int o59_x6) (C := RX5) (T := TX5) (N := 17) hx hb hts hfX5 hown hK hP q60 eq60 rfl 6 (by decide) (hts (.fieldLink RX5 59 "ColdShips$Ship" "orders" "I") wa_247) (fun _ h9 => h9) rfl dX5_copyFrom_53 ?_
  refine tpk_pos (tp_in hG ht_h0 (by decide)) g58 (fun q61 eq61 => ?_)
  refine va_put (D := (dC, dI)) (ci := 5) (v := .int o59_x6) (ty := .int) (C := RX5) (T := TX5) (N := 17) hx hb hts hfX5 tyX5 tyX5_ok nmX5 hown hK hP hD hS q61 eq61 rfl 6 (by decide) (hts (.fieldLink RX5 59 "ColdShips$Ship" "orders" "I") wa_247) (fun _ h9 => h9) rfl (tyX5_ok 6 (by decide)) rfl rfl (Nat.le_of_ble_eq_true rfl) dX5_copyFrom_56 (tp_k (.inr (5, [.ref (ρ h0 0), .int o17_x1, .int o35_x2, .int o41_x3, .int o47_x4, .int o53_x5, .int o59_x6, .ref (ρ h0 7), .ref (ρ h0 8), .ref (ρ h0 9), .int o8_x10, .int o8_x11, .int o8_x12, .ref (ρ h0 13), .int o8_x14, .ref (ρ h0 15), .ref (ρ h0 16)])) hD (tp_in hG ht_h0 (by decide)) eq61 (fun f62 H locs hP hD hS g64 k63 => ?_))
  have hT := hT.up ht_h0 g64 k63 ⟨_, _, _, _, _, _, _, _, _, _, rfl, ro35_0, ro53_1, ro59_2⟩
  have hR := hR.up ht_h0 (by decide) k63
  refine lv_aload_n hx hb dX5_copyFrom_59 rfl (lv_at hl 0 rfl) ?_
  refine lv_aload_n hx hb dX5_copyFrom_60 rfl (lv_at hl 1 rfl) ?_
  refine tpk_6 hT ht_h1 (fun o65_x1 o65_x2 o65_x3 o65_x4 o65_x5 o65_x6 o65_x10 o65_x11 o65_x12 o65_x14 hf_o65 ro65_0 ro65_1 ro65_2 => ?_)
  refine tpk_pos (tp_in hG ht_h1 (by decide)) hf_o65 (fun q66 eq66 => ?_)
  refine va_get (D := (dC, dI)) (ci := 5) (v := .int o65_x14) (C := RX5) (T := TX5) (N := 17) hx hb hts hfX5 hown hK hP q66 eq66 rfl 14 (by decide) (hts (.fieldLink RX5 62 "ColdShips$Ship" "list" "I") wa_248) (fun _ h9 => h9) rfl dX5_copyFrom_61 ?_
  refine tpk_pos (tp_in hG ht_h0 (by decide)) g64 (fun q67 eq67 => ?_)
  refine va_put (D := (dC, dI)) (ci := 5) (v := .int o65_x14) (ty := .int) (C := RX5) (T := TX5) (N := 17) hx hb hts hfX5 tyX5 tyX5_ok nmX5 hown hK hP hD hS q67 eq67 rfl 14 (by decide) (hts (.fieldLink RX5 62 "ColdShips$Ship" "list" "I") wa_248) (fun _ h9 => h9) rfl (tyX5_ok 14 (by decide)) rfl rfl (Nat.le_of_ble_eq_true rfl) dX5_copyFrom_64 (tp_k (.inr (5, [.ref (ρ h0 0), .int o17_x1, .int o35_x2, .int o41_x3, .int o47_x4, .int o53_x5, .int o59_x6, .ref (ρ h0 7), .ref (ρ h0 8), .ref (ρ h0 9), .int o8_x10, .int o8_x11, .int o8_x12, .ref (ρ h0 13), .int o65_x14, .ref (ρ h0 15), .ref (ρ h0 16)])) hD (tp_in hG ht_h0 (by decide)) eq67 (fun f68 H locs hP hD hS g70 k69 => ?_))
  have hT := hT.up ht_h0 g70 k69 ⟨_, _, _, _, _, _, _, _, _, _, rfl, ro35_0, ro53_1, ro59_2⟩
  have hR := hR.up ht_h0 (by decide) k69
  refine lv_aload_n hx hb dX5_copyFrom_67 rfl (lv_at hl 0 rfl) ?_
  refine lv_aload_n hx hb dX5_copyFrom_68 rfl (lv_at hl 1 rfl) ?_
  refine tpk_6 hT ht_h1 (fun o71_x1 o71_x2 o71_x3 o71_x4 o71_x5 o71_x6 o71_x10 o71_x11 o71_x12 o71_x14 hf_o71 ro71_0 ro71_1 ro71_2 => ?_)
  refine tpk_pos (tp_in hG ht_h1 (by decide)) hf_o71 (fun q72 eq72 => ?_)
  refine va_get (D := (dC, dI)) (ci := 5) (v := .int o71_x10) (C := RX5) (T := TX5) (N := 17) hx hb hts hfX5 hown hK hP q72 eq72 rfl 10 (by decide) (hts (.fieldLink RX5 96 "ColdShips$Ship" "landFirst" "I") wa_505) (fun _ h9 => h9) rfl dX5_copyFrom_69 ?_
  refine tpk_pos (tp_in hG ht_h0 (by decide)) g70 (fun q73 eq73 => ?_)
  refine va_put (D := (dC, dI)) (ci := 5) (v := .int o71_x10) (ty := .int) (C := RX5) (T := TX5) (N := 17) hx hb hts hfX5 tyX5 tyX5_ok nmX5 hown hK hP hD hS q73 eq73 rfl 10 (by decide) (hts (.fieldLink RX5 96 "ColdShips$Ship" "landFirst" "I") wa_505) (fun _ h9 => h9) rfl (tyX5_ok 10 (by decide)) rfl rfl (Nat.le_of_ble_eq_true rfl) dX5_copyFrom_72 (tp_k (.inr (5, [.ref (ρ h0 0), .int o17_x1, .int o35_x2, .int o41_x3, .int o47_x4, .int o53_x5, .int o59_x6, .ref (ρ h0 7), .ref (ρ h0 8), .ref (ρ h0 9), .int o71_x10, .int o8_x11, .int o8_x12, .ref (ρ h0 13), .int o65_x14, .ref (ρ h0 15), .ref (ρ h0 16)])) hD (tp_in hG ht_h0 (by decide)) eq73 (fun f74 H locs hP hD hS g76 k75 => ?_))
  have hT := hT.up ht_h0 g76 k75 ⟨_, _, _, _, _, _, _, _, _, _, rfl, ro35_0, ro53_1, ro59_2⟩
  have hR := hR.up ht_h0 (by decide) k75
  refine lv_aload_n hx hb dX5_copyFrom_75 rfl (lv_at hl 0 rfl) ?_
  refine lv_aload_n hx hb dX5_copyFrom_76 rfl (lv_at hl 1 rfl) ?_
  refine tpk_6 hT ht_h1 (fun o77_x1 o77_x2 o77_x3 o77_x4 o77_x5 o77_x6 o77_x10 o77_x11 o77_x12 o77_x14 hf_o77 ro77_0 ro77_1 ro77_2 => ?_)
  refine tpk_pos (tp_in hG ht_h1 (by decide)) hf_o77 (fun q78 eq78 => ?_)
  refine va_get (D := (dC, dI)) (ci := 5) (v := .int o77_x11) (C := RX5) (T := TX5) (N := 17) hx hb hts hfX5 hown hK hP q78 eq78 rfl 11 (by decide) (hts (.fieldLink RX5 99 "ColdShips$Ship" "landLast" "I") wa_506) (fun _ h9 => h9) rfl dX5_copyFrom_77 ?_
  refine tpk_pos (tp_in hG ht_h0 (by decide)) g76 (fun q79 eq79 => ?_)
  refine va_put (D := (dC, dI)) (ci := 5) (v := .int o77_x11) (ty := .int) (C := RX5) (T := TX5) (N := 17) hx hb hts hfX5 tyX5 tyX5_ok nmX5 hown hK hP hD hS q79 eq79 rfl 11 (by decide) (hts (.fieldLink RX5 99 "ColdShips$Ship" "landLast" "I") wa_506) (fun _ h9 => h9) rfl (tyX5_ok 11 (by decide)) rfl rfl (Nat.le_of_ble_eq_true rfl) dX5_copyFrom_80 (tp_k (.inr (5, [.ref (ρ h0 0), .int o17_x1, .int o35_x2, .int o41_x3, .int o47_x4, .int o53_x5, .int o59_x6, .ref (ρ h0 7), .ref (ρ h0 8), .ref (ρ h0 9), .int o71_x10, .int o77_x11, .int o8_x12, .ref (ρ h0 13), .int o65_x14, .ref (ρ h0 15), .ref (ρ h0 16)])) hD (tp_in hG ht_h0 (by decide)) eq79 (fun f80 H locs hP hD hS g82 k81 => ?_))
  have hT := hT.up ht_h0 g82 k81 ⟨_, _, _, _, _, _, _, _, _, _, rfl, ro35_0, ro53_1, ro59_2⟩
  have hR := hR.up ht_h0 (by decide) k81
  refine lv_aload_n hx hb dX5_copyFrom_83 rfl (lv_at hl 0 rfl) ?_
  refine lv_aload_n hx hb dX5_copyFrom_84 rfl (lv_at hl 1 rfl) ?_
  refine tpk_6 hT ht_h1 (fun o83_x1 o83_x2 o83_x3 o83_x4 o83_x5 o83_x6 o83_x10 o83_x11 o83_x12 o83_x14 hf_o83 ro83_0 ro83_1 ro83_2 => ?_)
  refine tpk_pos (tp_in hG ht_h1 (by decide)) hf_o83 (fun q84 eq84 => ?_)
  refine va_get (D := (dC, dI)) (ci := 5) (v := .int o83_x12) (C := RX5) (T := TX5) (N := 17) hx hb hts hfX5 hown hK hP q84 eq84 rfl 12 (by decide) (hts (.fieldLink RX5 93 "ColdShips$Ship" "landTons" "I") wa_266) (fun _ h9 => h9) rfl dX5_copyFrom_85 ?_
  refine tpk_pos (tp_in hG ht_h0 (by decide)) g82 (fun q85 eq85 => ?_)
  refine va_put (D := (dC, dI)) (ci := 5) (v := .int o83_x12) (ty := .int) (C := RX5) (T := TX5) (N := 17) hx hb hts hfX5 tyX5 tyX5_ok nmX5 hown hK hP hD hS q85 eq85 rfl 12 (by decide) (hts (.fieldLink RX5 93 "ColdShips$Ship" "landTons" "I") wa_266) (fun _ h9 => h9) rfl (tyX5_ok 12 (by decide)) rfl rfl (Nat.le_of_ble_eq_true rfl) dX5_copyFrom_88 (tp_k (.inr (5, [.ref (ρ h0 0), .int o17_x1, .int o35_x2, .int o41_x3, .int o47_x4, .int o53_x5, .int o59_x6, .ref (ρ h0 7), .ref (ρ h0 8), .ref (ρ h0 9), .int o71_x10, .int o77_x11, .int o83_x12, .ref (ρ h0 13), .int o65_x14, .ref (ρ h0 15), .ref (ρ h0 16)])) hD (tp_in hG ht_h0 (by decide)) eq85 (fun f86 H locs hP hD hS g88 k87 => ?_))
  have hT := hT.up ht_h0 g88 k87 ⟨_, _, _, _, _, _, _, _, _, _, rfl, ro35_0, ro53_1, ro59_2⟩
  have hR := hR.up ht_h0 (by decide) k87
  refine lv_aload_n hx hb dX5_copyFrom_91 rfl (lv_at hl 1 rfl) ?_
  refine tpk_6 hT ht_h1 (fun o89_x1 o89_x2 o89_x3 o89_x4 o89_x5 o89_x6 o89_x10 o89_x11 o89_x12 o89_x14 hf_o89 ro89_0 ro89_1 ro89_2 => ?_)
  refine tpk_pos (tp_in hG ht_h1 (by decide)) hf_o89 (fun q90 eq90 => ?_)
  refine va_get (D := (dC, dI)) (ci := 5) (v := .ref (ρ h1 7)) (C := RX5) (T := TX5) (N := 17) hx hb hts hfX5 hown hK hP q90 eq90 rfl 7 (by decide) (hts (.fieldLink RX5 18 "ColdShips$Ship" "orderSorts" "[I") wa_97) (fun _ h9 => h9) rfl dX5_copyFrom_92 ?_
  refine lv_iconst (v := 0) hx hb dX5_copyFrom_95 (by decide) ?_
  refine lv_aload_n hx hb dX5_copyFrom_96 rfl (lv_at hl 0 rfl) ?_
  refine tpk_pos (tp_in hG ht_h0 (by decide)) g88 (fun q91 eq91 => ?_)
  refine va_get (D := (dC, dI)) (ci := 5) (v := .ref (ρ h0 7)) (C := RX5) (T := TX5) (N := 17) hx hb hts hfX5 hown hK hP q91 eq91 rfl 7 (by decide) (hts (.fieldLink RX5 18 "ColdShips$Ship" "orderSorts" "[I") wa_97) (fun _ h9 => h9) rfl dX5_copyFrom_97 ?_
  refine lv_iconst (v := 0) hx hb dX5_copyFrom_100 (by decide) ?_
  refine lv_bipush (v := 20) hx hb dX5_copyFrom_101 (by decide) ?_
  refine tpk_20 hT y11 y11n (fun g93 hf_o92 => ?_)
  refine tpk_20 hT y2 y2n (fun g95 hf_o94 => ?_)
  refine tpk_pos (tp_in hG y11 (by decide)) hf_o92 (fun q96 eq96 => ?_)
  refine tpk_pos (tp_in hG y2 (by decide)) hf_o94 (fun q97 eq97 => ?_)
  refine va_copyi hx hb (by rw [hml]; exact hl.1.symm) hown (hts (.methodLink RX5 77 arraycopyName) wa_464) (hts (.native arraycopyName) wa_465) (hts (.static arraycopyName) wa_466) (hts (.initialized "java/lang/System") wa_467) hK hP hD hS q96 q97 0 0 eq96 eq97 rfl rfl rfl (by decide) (by decide) (by decide) (by decide) (by decide) (fun _ _ => rfl) (Nat.le_of_ble_eq_true rfl) (Nat.le_of_ble_eq_true rfl) dX5_copyFrom_103 (tp_k (.inl (κ 0, 20, .inl (va_cpy g93 g95 (0 : Int32).toNatClampNeg (0 : Int32).toNatClampNeg (20 : Int32).toNatClampNeg))) hD (tp_in hG y2 (by decide)) eq97 (fun f98 H locs hP hD hS g100 k99 => ?_))
  have hT := hT.up y2 g100 k99 (tp_o20 y2n)
  have hR := hR.up y2 (by decide) k99
  generalize (va_cpy g93 g95 (0 : Int32).toNatClampNeg (0 : Int32).toNatClampNeg (20 : Int32).toNatClampNeg) = g101 at g100
  refine lv_aload_n hx hb dX5_copyFrom_106 rfl (lv_at hl 1 rfl) ?_
  have hf_102 : f98 h1 = .inr (5, [.ref (ρ h1 0), .int o89_x1, .int o89_x2, .int o89_x3, .int o89_x4, .int o89_x5, .int o89_x6, .ref (ρ h1 7), .ref (ρ h1 8), .ref (ρ h1 9), .int o89_x10, .int o89_x11, .int o89_x12, .ref (ρ h1 13), .int o89_x14, .ref (ρ h1 15), .ref (ρ h1 16)]) := (k99 _ (tp_ne ht_h1 y2 (by decide))).trans hf_o89
  refine tpk_pos (tp_in hG ht_h1 (by decide)) hf_102 (fun q103 eq103 => ?_)
  refine va_get (D := (dC, dI)) (ci := 5) (v := .ref (ρ h1 8)) (C := RX5) (T := TX5) (N := 17) hx hb hts hfX5 hown hK hP q103 eq103 rfl 8 (by decide) (hts (.fieldLink RX5 22 "ColdShips$Ship" "orderWhats" "[I") wa_98) (fun _ h9 => h9) rfl dX5_copyFrom_107 ?_
  refine lv_iconst (v := 0) hx hb dX5_copyFrom_110 (by decide) ?_
  refine lv_aload_n hx hb dX5_copyFrom_111 rfl (lv_at hl 0 rfl) ?_
  have hf_104 : f98 h0 = .inr (5, [.ref (ρ h0 0), .int o17_x1, .int o35_x2, .int o41_x3, .int o47_x4, .int o53_x5, .int o59_x6, .ref (ρ h0 7), .ref (ρ h0 8), .ref (ρ h0 9), .int o71_x10, .int o77_x11, .int o83_x12, .ref (ρ h0 13), .int o65_x14, .ref (ρ h0 15), .ref (ρ h0 16)]) := (k99 _ (tp_ne ht_h0 y2 (by decide))).trans g88
  refine tpk_pos (tp_in hG ht_h0 (by decide)) hf_104 (fun q105 eq105 => ?_)
  refine va_get (D := (dC, dI)) (ci := 5) (v := .ref (ρ h0 8)) (C := RX5) (T := TX5) (N := 17) hx hb hts hfX5 hown hK hP q105 eq105 rfl 8 (by decide) (hts (.fieldLink RX5 22 "ColdShips$Ship" "orderWhats" "[I") wa_98) (fun _ h9 => h9) rfl dX5_copyFrom_112 ?_
  refine lv_iconst (v := 0) hx hb dX5_copyFrom_115 (by decide) ?_
  refine lv_bipush (v := 20) hx hb dX5_copyFrom_116 (by decide) ?_
  refine tpk_20 hT y12 y12n (fun g107 hf_o106 => ?_)
  refine tpk_20 hT y3 y3n (fun g109 hf_o108 => ?_)
  refine tpk_pos (tp_in hG y12 (by decide)) hf_o106 (fun q110 eq110 => ?_)
  refine tpk_pos (tp_in hG y3 (by decide)) hf_o108 (fun q111 eq111 => ?_)
  refine va_copyi hx hb (by rw [hml]; exact hl.1.symm) hown (hts (.methodLink RX5 77 arraycopyName) wa_464) (hts (.native arraycopyName) wa_465) (hts (.static arraycopyName) wa_466) (hts (.initialized "java/lang/System") wa_467) hK hP hD hS q110 q111 0 0 eq110 eq111 rfl rfl rfl (by decide) (by decide) (by decide) (by decide) (by decide) (fun _ _ => rfl) (Nat.le_of_ble_eq_true rfl) (Nat.le_of_ble_eq_true rfl) dX5_copyFrom_118 (tp_k (.inl (κ 0, 20, .inl (va_cpy g107 g109 (0 : Int32).toNatClampNeg (0 : Int32).toNatClampNeg (20 : Int32).toNatClampNeg))) hD (tp_in hG y3 (by decide)) eq111 (fun f112 H locs hP hD hS g114 k113 => ?_))
  have hT := hT.up y3 g114 k113 (tp_o20 y3n)
  have hR := hR.up y3 (by decide) k113
  generalize (va_cpy g107 g109 (0 : Int32).toNatClampNeg (0 : Int32).toNatClampNeg (20 : Int32).toNatClampNeg) = g115 at g114
  refine lv_aload_n hx hb dX5_copyFrom_121 rfl (lv_at hl 1 rfl) ?_
  have hf_116 : f112 h1 = .inr (5, [.ref (ρ h1 0), .int o89_x1, .int o89_x2, .int o89_x3, .int o89_x4, .int o89_x5, .int o89_x6, .ref (ρ h1 7), .ref (ρ h1 8), .ref (ρ h1 9), .int o89_x10, .int o89_x11, .int o89_x12, .ref (ρ h1 13), .int o89_x14, .ref (ρ h1 15), .ref (ρ h1 16)]) := (k113 _ (tp_ne ht_h1 y3 (by decide))).trans hf_102
  refine tpk_pos (tp_in hG ht_h1 (by decide)) hf_116 (fun q117 eq117 => ?_)
  refine va_get (D := (dC, dI)) (ci := 5) (v := .ref (ρ h1 9)) (C := RX5) (T := TX5) (N := 17) hx hb hts hfX5 hown hK hP q117 eq117 rfl 9 (by decide) (hts (.fieldLink RX5 25 "ColdShips$Ship" "book" "[J") wa_99) (fun _ h9 => h9) rfl dX5_copyFrom_122 ?_
  refine lv_iconst (v := 0) hx hb dX5_copyFrom_125 (by decide) ?_
  refine lv_aload_n hx hb dX5_copyFrom_126 rfl (lv_at hl 0 rfl) ?_
  have hf_118 : f112 h0 = .inr (5, [.ref (ρ h0 0), .int o17_x1, .int o35_x2, .int o41_x3, .int o47_x4, .int o53_x5, .int o59_x6, .ref (ρ h0 7), .ref (ρ h0 8), .ref (ρ h0 9), .int o71_x10, .int o77_x11, .int o83_x12, .ref (ρ h0 13), .int o65_x14, .ref (ρ h0 15), .ref (ρ h0 16)]) := (k113 _ (tp_ne ht_h0 y3 (by decide))).trans hf_104
  refine tpk_pos (tp_in hG ht_h0 (by decide)) hf_118 (fun q119 eq119 => ?_)
  refine va_get (D := (dC, dI)) (ci := 5) (v := .ref (ρ h0 9)) (C := RX5) (T := TX5) (N := 17) hx hb hts hfX5 hown hK hP q119 eq119 rfl 9 (by decide) (hts (.fieldLink RX5 25 "ColdShips$Ship" "book" "[J") wa_99) (fun _ h9 => h9) rfl dX5_copyFrom_127 ?_
  refine lv_iconst (v := 0) hx hb dX5_copyFrom_130 (by decide) ?_
  refine lv_iconst (v := 4) hx hb dX5_copyFrom_131 (by decide) ?_
  refine tpk_21 hT y13 y13n (fun g121 hf_o120 => ?_)
  refine tpk_21 hT y4 y4n (fun g123 hf_o122 => ?_)
  refine tpk_pos (tp_in hG y13 (by decide)) hf_o120 (fun q124 eq124 => ?_)
  refine tpk_pos (tp_in hG y4 (by decide)) hf_o122 (fun q125 eq125 => ?_)
  refine va_copyl hx hb (by rw [hml]; exact hl.1.symm) hown (hts (.methodLink RX5 77 arraycopyName) wa_464) (hts (.native arraycopyName) wa_465) (hts (.static arraycopyName) wa_466) (hts (.initialized "java/lang/System") wa_467) hK hP hD hS q124 q125 1 1 eq124 eq125 rfl rfl rfl (by decide) (by decide) (by decide) (by decide) (by decide) (fun _ _ => rfl) (Nat.le_of_ble_eq_true rfl) (Nat.le_of_ble_eq_true rfl) dX5_copyFrom_132 (tp_k (.inl (κ 1, 4, .inr (.inl (va_cpy g121 g123 (0 : Int32).toNatClampNeg (0 : Int32).toNatClampNeg (4 : Int32).toNatClampNeg)))) hD (tp_in hG y4 (by decide)) eq125 (fun f126 H locs hP hD hS g128 k127 => ?_))
  have hT := hT.up y4 g128 k127 (tp_o21 y4n)
  have hR := hR.up y4 (by decide) k127
  generalize (va_cpy g121 g123 (0 : Int32).toNatClampNeg (0 : Int32).toNatClampNeg (4 : Int32).toNatClampNeg) = g129 at g128
  refine lv_aload_n hx hb dX5_copyFrom_135 rfl (lv_at hl 1 rfl) ?_
  have hf_130 : f126 h1 = .inr (5, [.ref (ρ h1 0), .int o89_x1, .int o89_x2, .int o89_x3, .int o89_x4, .int o89_x5, .int o89_x6, .ref (ρ h1 7), .ref (ρ h1 8), .ref (ρ h1 9), .int o89_x10, .int o89_x11, .int o89_x12, .ref (ρ h1 13), .int o89_x14, .ref (ρ h1 15), .ref (ρ h1 16)]) := (k127 _ (tp_ne ht_h1 y4 (by decide))).trans hf_116
  refine tpk_pos (tp_in hG ht_h1 (by decide)) hf_130 (fun q131 eq131 => ?_)
  refine va_get (D := (dC, dI)) (ci := 5) (v := .ref (ρ h1 13)) (C := RX5) (T := TX5) (N := 17) hx hb hts hfX5 hown hK hP q131 eq131 rfl 13 (by decide) (hts (.fieldLink RX5 29 "ColdShips$Ship" "landParts" "[I") wa_100) (fun _ h9 => h9) rfl dX5_copyFrom_136 ?_
  refine lv_iconst (v := 0) hx hb dX5_copyFrom_139 (by decide) ?_
  refine lv_aload_n hx hb dX5_copyFrom_140 rfl (lv_at hl 0 rfl) ?_
  have hf_132 : f126 h0 = .inr (5, [.ref (ρ h0 0), .int o17_x1, .int o35_x2, .int o41_x3, .int o47_x4, .int o53_x5, .int o59_x6, .ref (ρ h0 7), .ref (ρ h0 8), .ref (ρ h0 9), .int o71_x10, .int o77_x11, .int o83_x12, .ref (ρ h0 13), .int o65_x14, .ref (ρ h0 15), .ref (ρ h0 16)]) := (k127 _ (tp_ne ht_h0 y4 (by decide))).trans hf_118
  refine tpk_pos (tp_in hG ht_h0 (by decide)) hf_132 (fun q133 eq133 => ?_)
  refine va_get (D := (dC, dI)) (ci := 5) (v := .ref (ρ h0 13)) (C := RX5) (T := TX5) (N := 17) hx hb hts hfX5 hown hK hP q133 eq133 rfl 13 (by decide) (hts (.fieldLink RX5 29 "ColdShips$Ship" "landParts" "[I") wa_100) (fun _ h9 => h9) rfl dX5_copyFrom_141 ?_
  refine lv_iconst (v := 0) hx hb dX5_copyFrom_144 (by decide) ?_
  refine lv_bipush (v := 6) hx hb dX5_copyFrom_145 (by decide) ?_
  refine tpk_20 hT y14 y14n (fun g135 hf_o134 => ?_)
  refine tpk_20 hT y5 y5n (fun g137 hf_o136 => ?_)
  refine tpk_pos (tp_in hG y14 (by decide)) hf_o134 (fun q138 eq138 => ?_)
  refine tpk_pos (tp_in hG y5 (by decide)) hf_o136 (fun q139 eq139 => ?_)
  refine va_copyi hx hb (by rw [hml]; exact hl.1.symm) hown (hts (.methodLink RX5 77 arraycopyName) wa_464) (hts (.native arraycopyName) wa_465) (hts (.static arraycopyName) wa_466) (hts (.initialized "java/lang/System") wa_467) hK hP hD hS q138 q139 0 0 eq138 eq139 rfl rfl rfl (by decide) (by decide) (by decide) (by decide) (by decide) (fun _ _ => rfl) (Nat.le_of_ble_eq_true rfl) (Nat.le_of_ble_eq_true rfl) dX5_copyFrom_147 (tp_k (.inl (κ 0, 6, .inl (va_cpy g135 g137 (0 : Int32).toNatClampNeg (0 : Int32).toNatClampNeg (6 : Int32).toNatClampNeg))) hD (tp_in hG y5 (by decide)) eq139 (fun f140 H locs hP hD hS g142 k141 => ?_))
  have hT := hT.up y5 g142 k141 (tp_o20 y5n)
  have hR := hR.up y5 (by decide) k141
  generalize (va_cpy g135 g137 (0 : Int32).toNatClampNeg (0 : Int32).toNatClampNeg (6 : Int32).toNatClampNeg) = g143 at g142
  refine lv_aload_n hx hb dX5_copyFrom_150 rfl (lv_at hl 1 rfl) ?_
  have hf_144 : f140 h1 = .inr (5, [.ref (ρ h1 0), .int o89_x1, .int o89_x2, .int o89_x3, .int o89_x4, .int o89_x5, .int o89_x6, .ref (ρ h1 7), .ref (ρ h1 8), .ref (ρ h1 9), .int o89_x10, .int o89_x11, .int o89_x12, .ref (ρ h1 13), .int o89_x14, .ref (ρ h1 15), .ref (ρ h1 16)]) := (k141 _ (tp_ne ht_h1 y5 (by decide))).trans hf_130
  refine tpk_pos (tp_in hG ht_h1 (by decide)) hf_144 (fun q145 eq145 => ?_)
  refine va_get (D := (dC, dI)) (ci := 5) (v := .ref (ρ h1 15)) (C := RX5) (T := TX5) (N := 17) hx hb hts hfX5 hown hK hP q145 eq145 rfl 15 (by decide) (hts (.fieldLink RX5 32 "ColdShips$Ship" "gaugeCentimetres" "[I") wa_101) (fun _ h9 => h9) rfl dX5_copyFrom_151 ?_
  refine lv_iconst (v := 0) hx hb dX5_copyFrom_154 (by decide) ?_
  refine lv_aload_n hx hb dX5_copyFrom_155 rfl (lv_at hl 0 rfl) ?_
  have hf_146 : f140 h0 = .inr (5, [.ref (ρ h0 0), .int o17_x1, .int o35_x2, .int o41_x3, .int o47_x4, .int o53_x5, .int o59_x6, .ref (ρ h0 7), .ref (ρ h0 8), .ref (ρ h0 9), .int o71_x10, .int o77_x11, .int o83_x12, .ref (ρ h0 13), .int o65_x14, .ref (ρ h0 15), .ref (ρ h0 16)]) := (k141 _ (tp_ne ht_h0 y5 (by decide))).trans hf_132
  refine tpk_pos (tp_in hG ht_h0 (by decide)) hf_146 (fun q147 eq147 => ?_)
  refine va_get (D := (dC, dI)) (ci := 5) (v := .ref (ρ h0 15)) (C := RX5) (T := TX5) (N := 17) hx hb hts hfX5 hown hK hP q147 eq147 rfl 15 (by decide) (hts (.fieldLink RX5 32 "ColdShips$Ship" "gaugeCentimetres" "[I") wa_101) (fun _ h9 => h9) rfl dX5_copyFrom_156 ?_
  refine lv_iconst (v := 0) hx hb dX5_copyFrom_159 (by decide) ?_
  refine lv_iconst (v := 4) hx hb dX5_copyFrom_160 (by decide) ?_
  refine tpk_20 hT y15 y15n (fun g149 hf_o148 => ?_)
  refine tpk_20 hT y6 y6n (fun g151 hf_o150 => ?_)
  refine tpk_pos (tp_in hG y15 (by decide)) hf_o148 (fun q152 eq152 => ?_)
  refine tpk_pos (tp_in hG y6 (by decide)) hf_o150 (fun q153 eq153 => ?_)
  refine va_copyi hx hb (by rw [hml]; exact hl.1.symm) hown (hts (.methodLink RX5 77 arraycopyName) wa_464) (hts (.native arraycopyName) wa_465) (hts (.static arraycopyName) wa_466) (hts (.initialized "java/lang/System") wa_467) hK hP hD hS q152 q153 0 0 eq152 eq153 rfl rfl rfl (by decide) (by decide) (by decide) (by decide) (by decide) (fun _ _ => rfl) (Nat.le_of_ble_eq_true rfl) (Nat.le_of_ble_eq_true rfl) dX5_copyFrom_161 (tp_k (.inl (κ 0, 4, .inl (va_cpy g149 g151 (0 : Int32).toNatClampNeg (0 : Int32).toNatClampNeg (4 : Int32).toNatClampNeg))) hD (tp_in hG y6 (by decide)) eq153 (fun f154 H locs hP hD hS g156 k155 => ?_))
  have hT := hT.up y6 g156 k155 (tp_o20 y6n)
  have hR := hR.up y6 (by decide) k155
  generalize (va_cpy g149 g151 (0 : Int32).toNatClampNeg (0 : Int32).toNatClampNeg (4 : Int32).toNatClampNeg) = g157 at g156
  refine lv_aload_n hx hb dX5_copyFrom_164 rfl (lv_at hl 1 rfl) ?_
  have hf_158 : f154 h1 = .inr (5, [.ref (ρ h1 0), .int o89_x1, .int o89_x2, .int o89_x3, .int o89_x4, .int o89_x5, .int o89_x6, .ref (ρ h1 7), .ref (ρ h1 8), .ref (ρ h1 9), .int o89_x10, .int o89_x11, .int o89_x12, .ref (ρ h1 13), .int o89_x14, .ref (ρ h1 15), .ref (ρ h1 16)]) := (k155 _ (tp_ne ht_h1 y6 (by decide))).trans hf_144
  refine tpk_pos (tp_in hG ht_h1 (by decide)) hf_158 (fun q159 eq159 => ?_)
  refine va_get (D := (dC, dI)) (ci := 5) (v := .ref (ρ h1 16)) (C := RX5) (T := TX5) (N := 17) hx hb hts hfX5 hown hK hP q159 eq159 rfl 16 (by decide) (hts (.fieldLink RX5 35 "ColdShips$Ship" "gaugeTons" "[I") wa_102) (fun _ h9 => h9) rfl dX5_copyFrom_165 ?_
  refine lv_iconst (v := 0) hx hb dX5_copyFrom_168 (by decide) ?_
  refine lv_aload_n hx hb dX5_copyFrom_169 rfl (lv_at hl 0 rfl) ?_
  have hf_160 : f154 h0 = .inr (5, [.ref (ρ h0 0), .int o17_x1, .int o35_x2, .int o41_x3, .int o47_x4, .int o53_x5, .int o59_x6, .ref (ρ h0 7), .ref (ρ h0 8), .ref (ρ h0 9), .int o71_x10, .int o77_x11, .int o83_x12, .ref (ρ h0 13), .int o65_x14, .ref (ρ h0 15), .ref (ρ h0 16)]) := (k155 _ (tp_ne ht_h0 y6 (by decide))).trans hf_146
  refine tpk_pos (tp_in hG ht_h0 (by decide)) hf_160 (fun q161 eq161 => ?_)
  refine va_get (D := (dC, dI)) (ci := 5) (v := .ref (ρ h0 16)) (C := RX5) (T := TX5) (N := 17) hx hb hts hfX5 hown hK hP q161 eq161 rfl 16 (by decide) (hts (.fieldLink RX5 35 "ColdShips$Ship" "gaugeTons" "[I") wa_102) (fun _ h9 => h9) rfl dX5_copyFrom_170 ?_
  refine lv_iconst (v := 0) hx hb dX5_copyFrom_173 (by decide) ?_
  refine lv_iconst (v := 4) hx hb dX5_copyFrom_174 (by decide) ?_
  refine tpk_20 hT y16 y16n (fun g163 hf_o162 => ?_)
  refine tpk_20 hT y7 y7n (fun g165 hf_o164 => ?_)
  refine tpk_pos (tp_in hG y16 (by decide)) hf_o162 (fun q166 eq166 => ?_)
  refine tpk_pos (tp_in hG y7 (by decide)) hf_o164 (fun q167 eq167 => ?_)
  refine va_copyi hx hb (by rw [hml]; exact hl.1.symm) hown (hts (.methodLink RX5 77 arraycopyName) wa_464) (hts (.native arraycopyName) wa_465) (hts (.static arraycopyName) wa_466) (hts (.initialized "java/lang/System") wa_467) hK hP hD hS q166 q167 0 0 eq166 eq167 rfl rfl rfl (by decide) (by decide) (by decide) (by decide) (by decide) (fun _ _ => rfl) (Nat.le_of_ble_eq_true rfl) (Nat.le_of_ble_eq_true rfl) dX5_copyFrom_175 (tp_k (.inl (κ 0, 4, .inl (va_cpy g163 g165 (0 : Int32).toNatClampNeg (0 : Int32).toNatClampNeg (4 : Int32).toNatClampNeg))) hD (tp_in hG y7 (by decide)) eq167 (fun f168 H locs hP hD hS g170 k169 => ?_))
  have hT := hT.up y7 g170 k169 (tp_o20 y7n)
  have hR := hR.up y7 (by decide) k169
  generalize (va_cpy g163 g165 (0 : Int32).toNatClampNeg (0 : Int32).toNatClampNeg (4 : Int32).toNatClampNeg) = g171 at g170
  exact W.vret hx hb hr (fun t ht hW => ⟨⟨f168, rfl, ⟨hT, hR, trivial⟩, by rw [ht]; exact hP, va_K.moved hW.alike hK, hD⟩, hS.F ht⟩) hS.2.2 dX5_copyFrom_178
end
section
theorem gX4_addRow_J7_fill_bad5a : GoodIn WALL (va_wsS RX4 28 yJ7_fill_bad5a wqJ7_fill_bad5a) := wg_S wa_518 wa_519 wa_199 wa_520
theorem dX4_addRow_0 : decode cX4_addRow 0 = .ok (.aload_n 0, 1) := od_42  (by decide +kernel)
theorem dX4_addRow_1 : decode cX4_addRow 1 = .ok (.getfield 25, 3) := od_180 (a := 0) (b := 25) (by decide +kernel) (by decide)
theorem dX4_addRow_4 : decode cX4_addRow 4 = .ok (.aload_n 0, 1) := od_42  (by decide +kernel)
theorem dX4_addRow_5 : decode cX4_addRow 5 = .ok (.getfield 15, 3) := od_180 (a := 0) (b := 15) (by decide +kernel) (by decide)
theorem dX4_addRow_8 : decode cX4_addRow 8 = .ok (.imul, 1) := od_104  (by decide +kernel)
theorem dX4_addRow_9 : decode cX4_addRow 9 = .ok (.istore_n 1, 1) := od_60  (by decide +kernel)
theorem dX4_addRow_10 : decode cX4_addRow 10 = .ok (.iload_n 1, 1) := od_27  (by decide +kernel)
theorem dX4_addRow_11 : decode cX4_addRow 11 = .ok (.aload_n 0, 1) := od_42  (by decide +kernel)
theorem dX4_addRow_12 : decode cX4_addRow 12 = .ok (.getfield 15, 3) := od_180 (a := 0) (b := 15) (by decide +kernel) (by decide)
theorem dX4_addRow_15 : decode cX4_addRow 15 = .ok (.iadd, 1) := od_96  (by decide +kernel)
theorem dX4_addRow_16 : decode cX4_addRow 16 = .ok (.aload_n 0, 1) := od_42  (by decide +kernel)
theorem dX4_addRow_17 : decode cX4_addRow 17 = .ok (.getfield 21, 3) := od_180 (a := 0) (b := 21) (by decide +kernel) (by decide)
theorem dX4_addRow_20 : decode cX4_addRow 20 = .ok (.arraylength, 1) := od_190  (by decide +kernel)
theorem dX4_addRow_21 : decode cX4_addRow 21 = .ok (.if_icmp .le 5, 3) := od_164 (a := 0) (b := 5) (by decide +kernel) (by decide +kernel)
theorem dX4_addRow_24 : decode cX4_addRow 24 = .ok (.iconst (-1), 1) := od_2  (by decide +kernel)
theorem dX4_addRow_25 : decode cX4_addRow 25 = .ok (.ireturn, 1) := od_172  (by decide +kernel)
theorem dX4_addRow_26 : decode cX4_addRow 26 = .ok (.aload_n 0, 1) := od_42  (by decide +kernel)
theorem dX4_addRow_27 : decode cX4_addRow 27 = .ok (.getfield 21, 3) := od_180 (a := 0) (b := 21) (by decide +kernel) (by decide)
theorem dX4_addRow_30 : decode cX4_addRow 30 = .ok (.iload_n 1, 1) := od_27  (by decide +kernel)
theorem dX4_addRow_31 : decode cX4_addRow 31 = .ok (.iload_n 1, 1) := od_27  (by decide +kernel)
theorem dX4_addRow_32 : decode cX4_addRow 32 = .ok (.aload_n 0, 1) := od_42  (by decide +kernel)
theorem dX4_addRow_33 : decode cX4_addRow 33 = .ok (.getfield 15, 3) := od_180 (a := 0) (b := 15) (by decide +kernel) (by decide)
theorem dX4_addRow_36 : decode cX4_addRow 36 = .ok (.iadd, 1) := od_96  (by decide +kernel)
theorem dX4_addRow_37 : decode cX4_addRow 37 = .ok (.lconst 0, 1) := od_9  (by decide +kernel)
theorem dX4_addRow_38 : decode cX4_addRow 38 = .ok (.invokestatic 28, 3) := od_184 (a := 0) (b := 28) (by decide +kernel) (by decide)
theorem dX4_addRow_41 : decode cX4_addRow 41 = .ok (.aload_n 0, 1) := od_42  (by decide +kernel)
theorem dX4_addRow_42 : decode cX4_addRow 42 = .ok (.dup, 1) := od_89  (by decide +kernel)
theorem dX4_addRow_43 : decode cX4_addRow 43 = .ok (.getfield 25, 3) := od_180 (a := 0) (b := 25) (by decide +kernel) (by decide)
theorem dX4_addRow_46 : decode cX4_addRow 46 = .ok (.dup_x1, 1) := od_90  (by decide +kernel)
theorem dX4_addRow_47 : decode cX4_addRow 47 = .ok (.iconst 1, 1) := od_4  (by decide +kernel)
theorem dX4_addRow_48 : decode cX4_addRow 48 = .ok (.iadd, 1) := od_96  (by decide +kernel)
theorem dX4_addRow_49 : decode cX4_addRow 49 = .ok (.putfield 25, 3) := od_181 (a := 0) (b := 25) (by decide +kernel) (by decide)
theorem dX4_addRow_52 : decode cX4_addRow 52 = .ok (.ireturn, 1) := od_172  (by decide +kernel)
theorem dX4_copyFrom_0 : decode cX4_copyFrom 0 = .ok (.aload_n 1, 1) := od_43  (by decide +kernel)
theorem dX4_copyFrom_1 : decode cX4_copyFrom 1 = .ok (.getfield 25, 3) := od_180 (a := 0) (b := 25) (by decide +kernel) (by decide)
theorem dX4_copyFrom_4 : decode cX4_copyFrom 4 = .ok (.aload_n 1, 1) := od_43  (by decide +kernel)
theorem dX4_copyFrom_5 : decode cX4_copyFrom 5 = .ok (.getfield 15, 3) := od_180 (a := 0) (b := 15) (by decide +kernel) (by decide)
theorem dX4_copyFrom_8 : decode cX4_copyFrom 8 = .ok (.imul, 1) := od_104  (by decide +kernel)
theorem dX4_copyFrom_9 : decode cX4_copyFrom 9 = .ok (.istore_n 2, 1) := od_61  (by decide +kernel)
theorem dX4_copyFrom_10 : decode cX4_copyFrom 10 = .ok (.aload_n 1, 1) := od_43  (by decide +kernel)
theorem dX4_copyFrom_11 : decode cX4_copyFrom 11 = .ok (.getfield 15, 3) := od_180 (a := 0) (b := 15) (by decide +kernel) (by decide)
theorem dX4_copyFrom_14 : decode cX4_copyFrom 14 = .ok (.aload_n 0, 1) := od_42  (by decide +kernel)
theorem dX4_copyFrom_15 : decode cX4_copyFrom 15 = .ok (.getfield 15, 3) := od_180 (a := 0) (b := 15) (by decide +kernel) (by decide)
theorem dX4_copyFrom_18 : decode cX4_copyFrom 18 = .ok (.if_icmp .ne 34, 3) := od_160 (a := 0) (b := 34) (by decide +kernel) (by decide +kernel)
theorem dX4_copyFrom_21 : decode cX4_copyFrom 21 = .ok (.iload_n 2, 1) := od_28  (by decide +kernel)
theorem dX4_copyFrom_22 : decode cX4_copyFrom 22 = .ok (.aload_n 0, 1) := od_42  (by decide +kernel)
theorem dX4_copyFrom_23 : decode cX4_copyFrom 23 = .ok (.getfield 21, 3) := od_180 (a := 0) (b := 21) (by decide +kernel) (by decide)
theorem dX4_copyFrom_26 : decode cX4_copyFrom 26 = .ok (.arraylength, 1) := od_190  (by decide +kernel)
theorem dX4_copyFrom_27 : decode cX4_copyFrom 27 = .ok (.if_icmp .gt 25, 3) := od_163 (a := 0) (b := 25) (by decide +kernel) (by decide +kernel)
theorem dX4_copyFrom_30 : decode cX4_copyFrom 30 = .ok (.aload_n 1, 1) := od_43  (by decide +kernel)
theorem dX4_copyFrom_31 : decode cX4_copyFrom 31 = .ok (.getfield 21, 3) := od_180 (a := 0) (b := 21) (by decide +kernel) (by decide)
theorem dX4_copyFrom_34 : decode cX4_copyFrom 34 = .ok (.iconst 0, 1) := od_3  (by decide +kernel)
theorem dX4_copyFrom_35 : decode cX4_copyFrom 35 = .ok (.aload_n 0, 1) := od_42  (by decide +kernel)
theorem dX4_copyFrom_36 : decode cX4_copyFrom 36 = .ok (.getfield 21, 3) := od_180 (a := 0) (b := 21) (by decide +kernel) (by decide)
theorem dX4_copyFrom_39 : decode cX4_copyFrom 39 = .ok (.iconst 0, 1) := od_3  (by decide +kernel)
theorem dX4_copyFrom_40 : decode cX4_copyFrom 40 = .ok (.iload_n 2, 1) := od_28  (by decide +kernel)
theorem dX4_copyFrom_41 : decode cX4_copyFrom 41 = .ok (.invokestatic 42, 3) := od_184 (a := 0) (b := 42) (by decide +kernel) (by decide)
theorem dX4_copyFrom_44 : decode cX4_copyFrom 44 = .ok (.aload_n 0, 1) := od_42  (by decide +kernel)
theorem dX4_copyFrom_45 : decode cX4_copyFrom 45 = .ok (.aload_n 1, 1) := od_43  (by decide +kernel)
theorem dX4_copyFrom_46 : decode cX4_copyFrom 46 = .ok (.getfield 25, 3) := od_180 (a := 0) (b := 25) (by decide +kernel) (by decide)
theorem dX4_copyFrom_49 : decode cX4_copyFrom 49 = .ok (.putfield 25, 3) := od_181 (a := 0) (b := 25) (by decide +kernel) (by decide)
theorem dX4_copyFrom_52 : decode cX4_copyFrom 52 = .ok (.return_, 1) := od_177  (by decide +kernel)
theorem dX10_hasTerminal_0 : decode cX10_hasTerminal 0 = .ok (.iload_n 1, 1) := od_27  (by decide +kernel)
theorem dX10_hasTerminal_1 : decode cX10_hasTerminal 1 = .ok (.ifCond .lt 15, 3) := od_155 (a := 0) (b := 15) (by decide +kernel) (by decide +kernel)
theorem dX10_hasTerminal_4 : decode cX10_hasTerminal 4 = .ok (.iload_n 1, 1) := od_27  (by decide +kernel)
theorem dX10_hasTerminal_5 : decode cX10_hasTerminal 5 = .ok (.aload_n 0, 1) := od_42  (by decide +kernel)
theorem dX10_hasTerminal_6 : decode cX10_hasTerminal 6 = .ok (.getfield 78, 3) := od_180 (a := 0) (b := 78) (by decide +kernel) (by decide)
theorem dX10_hasTerminal_9 : decode cX10_hasTerminal 9 = .ok (.if_icmp .ge 7, 3) := od_162 (a := 0) (b := 7) (by decide +kernel) (by decide +kernel)
theorem dX10_hasTerminal_12 : decode cX10_hasTerminal 12 = .ok (.iconst 1, 1) := od_4  (by decide +kernel)
theorem dX10_hasTerminal_13 : decode cX10_hasTerminal 13 = .ok (.goto 4, 3) := od_167 (a := 0) (b := 4) (by decide +kernel) (by decide +kernel)
theorem dX10_hasTerminal_16 : decode cX10_hasTerminal 16 = .ok (.iconst 0, 1) := od_3  (by decide +kernel)
theorem dX10_hasTerminal_17 : decode cX10_hasTerminal 17 = .ok (.ireturn, 1) := od_172  (by decide +kernel)
theorem dX10_hasShip_0 : decode cX10_hasShip 0 = .ok (.iload_n 1, 1) := od_27  (by decide +kernel)
theorem dX10_hasShip_1 : decode cX10_hasShip 1 = .ok (.ifCond .lt 15, 3) := od_155 (a := 0) (b := 15) (by decide +kernel) (by decide +kernel)
theorem dX10_hasShip_4 : decode cX10_hasShip 4 = .ok (.iload_n 1, 1) := od_27  (by decide +kernel)
theorem dX10_hasShip_5 : decode cX10_hasShip 5 = .ok (.aload_n 0, 1) := od_42  (by decide +kernel)
theorem dX10_hasShip_6 : decode cX10_hasShip 6 = .ok (.getfield 81, 3) := od_180 (a := 0) (b := 81) (by decide +kernel) (by decide)
theorem dX10_hasShip_9 : decode cX10_hasShip 9 = .ok (.if_icmp .ge 7, 3) := od_162 (a := 0) (b := 7) (by decide +kernel) (by decide +kernel)
theorem dX10_hasShip_12 : decode cX10_hasShip 12 = .ok (.iconst 1, 1) := od_4  (by decide +kernel)
theorem dX10_hasShip_13 : decode cX10_hasShip 13 = .ok (.goto 4, 3) := od_167 (a := 0) (b := 4) (by decide +kernel) (by decide +kernel)
theorem dX10_hasShip_16 : decode cX10_hasShip 16 = .ok (.iconst 0, 1) := od_3  (by decide +kernel)
theorem dX10_hasShip_17 : decode cX10_hasShip 17 = .ok (.ireturn, 1) := od_172  (by decide +kernel)
theorem dX10_hasContract_0 : decode cX10_hasContract 0 = .ok (.iload_n 1, 1) := od_27  (by decide +kernel)
theorem dX10_hasContract_1 : decode cX10_hasContract 1 = .ok (.ifCond .lt 24, 3) := od_155 (a := 0) (b := 24) (by decide +kernel) (by decide +kernel)
theorem dX10_hasContract_4 : decode cX10_hasContract 4 = .ok (.iload_n 1, 1) := od_27  (by decide +kernel)
theorem dX10_hasContract_5 : decode cX10_hasContract 5 = .ok (.aload_n 0, 1) := od_42  (by decide +kernel)
theorem dX10_hasContract_6 : decode cX10_hasContract 6 = .ok (.getfield 84, 3) := od_180 (a := 0) (b := 84) (by decide +kernel) (by decide)
theorem dX10_hasContract_9 : decode cX10_hasContract 9 = .ok (.if_icmp .ge 16, 3) := od_162 (a := 0) (b := 16) (by decide +kernel) (by decide +kernel)
theorem dX10_hasContract_12 : decode cX10_hasContract 12 = .ok (.aload_n 0, 1) := od_42  (by decide +kernel)
theorem dX10_hasContract_13 : decode cX10_hasContract 13 = .ok (.getfield 39, 3) := od_180 (a := 0) (b := 39) (by decide +kernel) (by decide)
theorem dX10_hasContract_16 : decode cX10_hasContract 16 = .ok (.iload_n 1, 1) := od_27  (by decide +kernel)
theorem dX10_hasContract_17 : decode cX10_hasContract 17 = .ok (.aaload, 1) := od_50  (by decide +kernel)
theorem dX10_hasContract_18 : decode cX10_hasContract 18 = .ok (.ifnull 7, 3) := od_198 (a := 0) (b := 7) (by decide +kernel) (by decide +kernel)
theorem dX10_hasContract_21 : decode cX10_hasContract 21 = .ok (.iconst 1, 1) := od_4  (by decide +kernel)
theorem dX10_hasContract_22 : decode cX10_hasContract 22 = .ok (.goto 4, 3) := od_167 (a := 0) (b := 4) (by decide +kernel) (by decide +kernel)
theorem dX10_hasContract_25 : decode cX10_hasContract 25 = .ok (.iconst 0, 1) := od_3  (by decide +kernel)
theorem dX10_hasContract_26 : decode cX10_hasContract 26 = .ok (.ireturn, 1) := od_172  (by decide +kernel)
theorem gX10_isSettled_X4_at : GoodIn WALL (wsV RX10 87 RX4 yX4_at wqX4_at) := wg_V wa_690 wa_683 wa_684 wa_56 wa_685
theorem dX10_isSettled_0 : decode cX10_isSettled 0 = .ok (.aload_n 0, 1) := od_42  (by decide +kernel)
theorem dX10_isSettled_1 : decode cX10_isSettled 1 = .ok (.getfield 70, 3) := od_180 (a := 0) (b := 70) (by decide +kernel) (by decide)
theorem dX10_isSettled_4 : decode cX10_isSettled 4 = .ok (.iload_n 1, 1) := od_27  (by decide +kernel)
theorem dX10_isSettled_5 : decode cX10_isSettled 5 = .ok (.bipush 12, 2) := od_16 (a := 12) (by decide +kernel) (by decide +kernel)
theorem dX10_isSettled_7 : decode cX10_isSettled 7 = .ok (.invokevirtual 87, 3) := od_182 (a := 0) (b := 87) (by decide +kernel) (by decide)
theorem dX10_isSettled_10 : decode cX10_isSettled 10 = .ok (.ldc2_w 91, 3) := od_20 (a := 0) (b := 91) (by decide +kernel) (by decide)
theorem dX10_isSettled_13 : decode cX10_isSettled 13 = .ok (.lcmp, 1) := od_148  (by decide +kernel)
theorem dX10_isSettled_14 : decode cX10_isSettled 14 = .ok (.ifCond .eq 7, 3) := od_153 (a := 0) (b := 7) (by decide +kernel) (by decide +kernel)
theorem dX10_isSettled_17 : decode cX10_isSettled 17 = .ok (.iconst 1, 1) := od_4  (by decide +kernel)
theorem dX10_isSettled_18 : decode cX10_isSettled 18 = .ok (.goto 4, 3) := od_167 (a := 0) (b := 4) (by decide +kernel) (by decide +kernel)
theorem dX10_isSettled_21 : decode cX10_isSettled 21 = .ok (.iconst 0, 1) := od_3  (by decide +kernel)
theorem dX10_isSettled_22 : decode cX10_isSettled 22 = .ok (.ireturn, 1) := od_172  (by decide +kernel)
theorem gX10_hoursBetween_X10_hasTerminal : GoodIn WALL (wsV RX10 93 RX10 yX10_hasTerminal wqX10_hasTerminal) := wg_V wa_459 wa_234 wa_235 wa_14 wa_236
theorem dX10_hoursBetween_0 : decode cX10_hoursBetween 0 = .ok (.aload_n 0, 1) := od_42  (by decide +kernel)
theorem dX10_hoursBetween_1 : decode cX10_hoursBetween 1 = .ok (.iload_n 1, 1) := od_27  (by decide +kernel)
theorem dX10_hoursBetween_2 : decode cX10_hoursBetween 2 = .ok (.invokevirtual 93, 3) := od_182 (a := 0) (b := 93) (by decide +kernel) (by decide)
theorem dX10_hoursBetween_5 : decode cX10_hoursBetween 5 = .ok (.ifCond .eq 11, 3) := od_153 (a := 0) (b := 11) (by decide +kernel) (by decide +kernel)
theorem dX10_hoursBetween_8 : decode cX10_hoursBetween 8 = .ok (.aload_n 0, 1) := od_42  (by decide +kernel)
theorem dX10_hoursBetween_9 : decode cX10_hoursBetween 9 = .ok (.iload_n 2, 1) := od_28  (by decide +kernel)
theorem dX10_hoursBetween_10 : decode cX10_hoursBetween 10 = .ok (.invokevirtual 93, 3) := od_182 (a := 0) (b := 93) (by decide +kernel) (by decide)
theorem dX10_hoursBetween_13 : decode cX10_hoursBetween 13 = .ok (.ifCond .ne 5, 3) := od_154 (a := 0) (b := 5) (by decide +kernel) (by decide +kernel)
theorem dX10_hoursBetween_16 : decode cX10_hoursBetween 16 = .ok (.iconst (-1), 1) := od_2  (by decide +kernel)
theorem dX10_hoursBetween_17 : decode cX10_hoursBetween 17 = .ok (.ireturn, 1) := od_172  (by decide +kernel)
theorem dX10_hoursBetween_18 : decode cX10_hoursBetween 18 = .ok (.iload_n 1, 1) := od_27  (by decide +kernel)
theorem dX10_hoursBetween_19 : decode cX10_hoursBetween 19 = .ok (.iload_n 2, 1) := od_28  (by decide +kernel)
theorem dX10_hoursBetween_20 : decode cX10_hoursBetween 20 = .ok (.if_icmp .ne 5, 3) := od_160 (a := 0) (b := 5) (by decide +kernel) (by decide +kernel)
theorem dX10_hoursBetween_23 : decode cX10_hoursBetween 23 = .ok (.iconst 0, 1) := od_3  (by decide +kernel)
theorem dX10_hoursBetween_24 : decode cX10_hoursBetween 24 = .ok (.ireturn, 1) := od_172  (by decide +kernel)
theorem dX10_hoursBetween_25 : decode cX10_hoursBetween 25 = .ok (.aload_n 0, 1) := od_42  (by decide +kernel)
theorem dX10_hoursBetween_26 : decode cX10_hoursBetween 26 = .ok (.getfield 27, 3) := od_180 (a := 0) (b := 27) (by decide +kernel) (by decide)
theorem dX10_hoursBetween_29 : decode cX10_hoursBetween 29 = .ok (.iload_n 1, 1) := od_27  (by decide +kernel)
theorem dX10_hoursBetween_30 : decode cX10_hoursBetween 30 = .ok (.aaload, 1) := od_50  (by decide +kernel)
theorem dX10_hoursBetween_31 : decode cX10_hoursBetween 31 = .ok (.getfield 97, 3) := od_180 (a := 0) (b := 97) (by decide +kernel) (by decide)
theorem dX10_hoursBetween_34 : decode cX10_hoursBetween 34 = .ok (.iload_n 2, 1) := od_28  (by decide +kernel)
theorem dX10_hoursBetween_35 : decode cX10_hoursBetween 35 = .ok (.iaload, 1) := od_46  (by decide +kernel)
theorem dX10_hoursBetween_36 : decode cX10_hoursBetween 36 = .ok (.istore_n 3, 1) := od_62  (by decide +kernel)
theorem dX10_hoursBetween_37 : decode cX10_hoursBetween 37 = .ok (.iload_n 3, 1) := od_29  (by decide +kernel)
theorem dX10_hoursBetween_38 : decode cX10_hoursBetween 38 = .ok (.ifCond .le 7, 3) := od_158 (a := 0) (b := 7) (by decide +kernel) (by decide +kernel)
theorem dX10_hoursBetween_41 : decode cX10_hoursBetween 41 = .ok (.iload_n 3, 1) := od_29  (by decide +kernel)
theorem dX10_hoursBetween_42 : decode cX10_hoursBetween 42 = .ok (.goto 4, 3) := od_167 (a := 0) (b := 4) (by decide +kernel) (by decide +kernel)
theorem dX10_hoursBetween_45 : decode cX10_hoursBetween 45 = .ok (.iconst (-1), 1) := od_2  (by decide +kernel)
theorem dX10_hoursBetween_46 : decode cX10_hoursBetween 46 = .ok (.ireturn, 1) := od_172  (by decide +kernel)
theorem gX10_heatOf_X4_at : GoodIn WALL (wsV RX10 87 RX4 yX4_at wqX4_at) := wg_V wa_690 wa_683 wa_684 wa_56 wa_685
theorem dX10_heatOf_0 : decode cX10_heatOf 0 = .ok (.aload_n 0, 1) := od_42  (by decide +kernel)
theorem dX10_heatOf_1 : decode cX10_heatOf 1 = .ok (.getfield 70, 3) := od_180 (a := 0) (b := 70) (by decide +kernel) (by decide)
theorem dX10_heatOf_4 : decode cX10_heatOf 4 = .ok (.iload_n 1, 1) := od_27  (by decide +kernel)
theorem dX10_heatOf_5 : decode cX10_heatOf 5 = .ok (.iconst 4, 1) := od_7  (by decide +kernel)
theorem dX10_heatOf_6 : decode cX10_heatOf 6 = .ok (.invokevirtual 87, 3) := od_182 (a := 0) (b := 87) (by decide +kernel) (by decide)
theorem dX10_heatOf_9 : decode cX10_heatOf 9 = .ok (.lstore_n 2, 1) := od_65  (by decide +kernel)
theorem dX10_heatOf_10 : decode cX10_heatOf 10 = .ok (.lload_n 2, 1) := od_32  (by decide +kernel)
theorem dX10_heatOf_11 : decode cX10_heatOf 11 = .ok (.lconst 0, 1) := od_9  (by decide +kernel)
theorem dX10_heatOf_12 : decode cX10_heatOf 12 = .ok (.lcmp, 1) := od_148  (by decide +kernel)
theorem dX10_heatOf_13 : decode cX10_heatOf 13 = .ok (.ifCond .gt 5, 3) := od_157 (a := 0) (b := 5) (by decide +kernel) (by decide +kernel)
theorem dX10_heatOf_16 : decode cX10_heatOf 16 = .ok (.lconst 0, 1) := od_9  (by decide +kernel)
theorem dX10_heatOf_17 : decode cX10_heatOf 17 = .ok (.lreturn, 1) := od_173  (by decide +kernel)
theorem dX10_heatOf_18 : decode cX10_heatOf 18 = .ok (.lconst 0, 1) := od_9  (by decide +kernel)
theorem dX10_heatOf_19 : decode cX10_heatOf 19 = .ok (.lstore 4, 2) := od_55 (n := 4) (by decide +kernel)
theorem dX10_heatOf_21 : decode cX10_heatOf 21 = .ok (.iconst 0, 1) := od_3  (by decide +kernel)
theorem dX10_heatOf_22 : decode cX10_heatOf 22 = .ok (.istore 6, 2) := od_54 (n := 6) (by decide +kernel)
theorem dX10_heatOf_24 : decode cX10_heatOf 24 = .ok (.iload 6, 2) := od_21 (n := 6) (by decide +kernel)
theorem dX10_heatOf_26 : decode cX10_heatOf 26 = .ok (.bipush 6, 2) := od_16 (a := 6) (by decide +kernel) (by decide +kernel)
theorem dX10_heatOf_28 : decode cX10_heatOf 28 = .ok (.if_icmp .ge 38, 3) := od_162 (a := 0) (b := 38) (by decide +kernel) (by decide +kernel)
theorem dX10_heatOf_31 : decode cX10_heatOf 31 = .ok (.lload 4, 2) := od_22 (n := 4) (by decide +kernel)
theorem dX10_heatOf_33 : decode cX10_heatOf 33 = .ok (.aload_n 0, 1) := od_42  (by decide +kernel)
theorem dX10_heatOf_34 : decode cX10_heatOf 34 = .ok (.getfield 70, 3) := od_180 (a := 0) (b := 70) (by decide +kernel) (by decide)
theorem dX10_heatOf_37 : decode cX10_heatOf 37 = .ok (.iload_n 1, 1) := od_27  (by decide +kernel)
theorem dX10_heatOf_38 : decode cX10_heatOf 38 = .ok (.iconst 5, 1) := od_8  (by decide +kernel)
theorem dX10_heatOf_39 : decode cX10_heatOf 39 = .ok (.iload 6, 2) := od_21 (n := 6) (by decide +kernel)
theorem dX10_heatOf_41 : decode cX10_heatOf 41 = .ok (.iadd, 1) := od_96  (by decide +kernel)
theorem dX10_heatOf_42 : decode cX10_heatOf 42 = .ok (.invokevirtual 87, 3) := od_182 (a := 0) (b := 87) (by decide +kernel) (by decide)
theorem dX10_heatOf_45 : decode cX10_heatOf 45 = .ok (.aload_n 0, 1) := od_42  (by decide +kernel)
theorem dX10_heatOf_46 : decode cX10_heatOf 46 = .ok (.getfield 27, 3) := od_180 (a := 0) (b := 27) (by decide +kernel) (by decide)
theorem dX10_heatOf_49 : decode cX10_heatOf 49 = .ok (.iload 6, 2) := od_21 (n := 6) (by decide +kernel)
theorem dX10_heatOf_51 : decode cX10_heatOf 51 = .ok (.aaload, 1) := od_50  (by decide +kernel)
theorem dX10_heatOf_52 : decode cX10_heatOf 52 = .ok (.getfield 100, 3) := od_180 (a := 0) (b := 100) (by decide +kernel) (by decide)
theorem dX10_heatOf_55 : decode cX10_heatOf 55 = .ok (.i2l, 1) := od_133  (by decide +kernel)
theorem dX10_heatOf_56 : decode cX10_heatOf 56 = .ok (.lmul, 1) := od_105  (by decide +kernel)
theorem dX10_heatOf_57 : decode cX10_heatOf 57 = .ok (.ladd, 1) := od_97  (by decide +kernel)
theorem dX10_heatOf_58 : decode cX10_heatOf 58 = .ok (.lstore 4, 2) := od_55 (n := 4) (by decide +kernel)
theorem dX10_heatOf_60 : decode cX10_heatOf 60 = .ok (.iinc 6 1, 3) := od_132 (a := 6) (b := 1) (by decide +kernel) (by decide +kernel)
theorem dX10_heatOf_63 : decode cX10_heatOf 63 = .ok (.goto (-39), 3) := od_167 (a := 255) (b := 217) (by decide +kernel) (by decide +kernel)
theorem dX10_heatOf_66 : decode cX10_heatOf 66 = .ok (.lload 4, 2) := od_22 (n := 4) (by decide +kernel)
theorem dX10_heatOf_68 : decode cX10_heatOf 68 = .ok (.lload_n 2, 1) := od_32  (by decide +kernel)
theorem dX10_heatOf_69 : decode cX10_heatOf 69 = .ok (.ldiv, 1) := od_109  (by decide +kernel)
theorem dX10_heatOf_70 : decode cX10_heatOf 70 = .ok (.lreturn, 1) := od_173  (by decide +kernel)
theorem gX10_billedOf_X4_at : GoodIn WALL (wsV RX10 87 RX4 yX4_at wqX4_at) := wg_V wa_690 wa_683 wa_684 wa_56 wa_685
theorem dX10_billedOf_0 : decode cX10_billedOf 0 = .ok (.aload_n 0, 1) := od_42  (by decide +kernel)
theorem dX10_billedOf_1 : decode cX10_billedOf 1 = .ok (.getfield 70, 3) := od_180 (a := 0) (b := 70) (by decide +kernel) (by decide)
theorem dX10_billedOf_4 : decode cX10_billedOf 4 = .ok (.iload_n 1, 1) := od_27  (by decide +kernel)
theorem dX10_billedOf_5 : decode cX10_billedOf 5 = .ok (.bipush 11, 2) := od_16 (a := 11) (by decide +kernel) (by decide +kernel)
theorem dX10_billedOf_7 : decode cX10_billedOf 7 = .ok (.invokevirtual 87, 3) := od_182 (a := 0) (b := 87) (by decide +kernel) (by decide)
theorem dX10_billedOf_10 : decode cX10_billedOf 10 = .ok (.lstore_n 2, 1) := od_65  (by decide +kernel)
theorem dX10_billedOf_11 : decode cX10_billedOf 11 = .ok (.lload_n 2, 1) := od_32  (by decide +kernel)
theorem dX10_billedOf_12 : decode cX10_billedOf 12 = .ok (.ldc2_w 91, 3) := od_20 (a := 0) (b := 91) (by decide +kernel) (by decide)
theorem dX10_billedOf_15 : decode cX10_billedOf 15 = .ok (.lcmp, 1) := od_148  (by decide +kernel)
theorem dX10_billedOf_16 : decode cX10_billedOf 16 = .ok (.ifCond .eq 7, 3) := od_153 (a := 0) (b := 7) (by decide +kernel) (by decide +kernel)
theorem dX10_billedOf_19 : decode cX10_billedOf 19 = .ok (.lload_n 2, 1) := od_32  (by decide +kernel)
theorem dX10_billedOf_20 : decode cX10_billedOf 20 = .ok (.goto 12, 3) := od_167 (a := 0) (b := 12) (by decide +kernel) (by decide +kernel)
theorem dX10_billedOf_23 : decode cX10_billedOf 23 = .ok (.aload_n 0, 1) := od_42  (by decide +kernel)
theorem dX10_billedOf_24 : decode cX10_billedOf 24 = .ok (.getfield 70, 3) := od_180 (a := 0) (b := 70) (by decide +kernel) (by decide)
theorem dX10_billedOf_27 : decode cX10_billedOf 27 = .ok (.iload_n 1, 1) := od_27  (by decide +kernel)
theorem dX10_billedOf_28 : decode cX10_billedOf 28 = .ok (.iconst 4, 1) := od_7  (by decide +kernel)
theorem dX10_billedOf_29 : decode cX10_billedOf 29 = .ok (.invokevirtual 87, 3) := od_182 (a := 0) (b := 87) (by decide +kernel) (by decide)
theorem dX10_billedOf_32 : decode cX10_billedOf 32 = .ok (.lreturn, 1) := od_173  (by decide +kernel)
theorem gX10_priceOf_X4_at : GoodIn WALL (wsV RX10 87 RX4 yX4_at wqX4_at) := wg_V wa_690 wa_683 wa_684 wa_56 wa_685
theorem dX10_priceOf_0 : decode cX10_priceOf 0 = .ok (.aload_n 0, 1) := od_42  (by decide +kernel)
theorem dX10_priceOf_1 : decode cX10_priceOf 1 = .ok (.getfield 70, 3) := od_180 (a := 0) (b := 70) (by decide +kernel) (by decide)
theorem dX10_priceOf_4 : decode cX10_priceOf 4 = .ok (.iload_n 1, 1) := od_27  (by decide +kernel)
theorem dX10_priceOf_5 : decode cX10_priceOf 5 = .ok (.iconst 3, 1) := od_6  (by decide +kernel)
theorem dX10_priceOf_6 : decode cX10_priceOf 6 = .ok (.invokevirtual 87, 3) := od_182 (a := 0) (b := 87) (by decide +kernel) (by decide)
theorem dX10_priceOf_9 : decode cX10_priceOf 9 = .ok (.ldc2_w 103, 3) := od_20 (a := 0) (b := 103) (by decide +kernel) (by decide)
theorem dX10_priceOf_12 : decode cX10_priceOf 12 = .ok (.ldiv, 1) := od_109  (by decide +kernel)
theorem dX10_priceOf_13 : decode cX10_priceOf 13 = .ok (.lstore_n 3, 1) := od_66  (by decide +kernel)
theorem dX10_priceOf_14 : decode cX10_priceOf 14 = .ok (.ldc2_w 91, 3) := od_20 (a := 0) (b := 91) (by decide +kernel) (by decide)
theorem dX10_priceOf_17 : decode cX10_priceOf 17 = .ok (.lstore 5, 2) := od_55 (n := 5) (by decide +kernel)
theorem dX10_priceOf_19 : decode cX10_priceOf 19 = .ok (.lconst 0, 1) := od_9  (by decide +kernel)
theorem dX10_priceOf_20 : decode cX10_priceOf 20 = .ok (.lstore 7, 2) := od_55 (n := 7) (by decide +kernel)
theorem dX10_priceOf_22 : decode cX10_priceOf 22 = .ok (.iconst 0, 1) := od_3  (by decide +kernel)
theorem dX10_priceOf_23 : decode cX10_priceOf 23 = .ok (.istore 9, 2) := od_54 (n := 9) (by decide +kernel)
theorem dX10_priceOf_25 : decode cX10_priceOf 25 = .ok (.iload 9, 2) := od_21 (n := 9) (by decide +kernel)
theorem dX10_priceOf_27 : decode cX10_priceOf 27 = .ok (.aload_n 0, 1) := od_42  (by decide +kernel)
theorem dX10_priceOf_28 : decode cX10_priceOf 28 = .ok (.getfield 63, 3) := od_180 (a := 0) (b := 63) (by decide +kernel) (by decide)
theorem dX10_priceOf_31 : decode cX10_priceOf 31 = .ok (.getfield 105, 3) := od_180 (a := 0) (b := 105) (by decide +kernel) (by decide)
theorem dX10_priceOf_34 : decode cX10_priceOf 34 = .ok (.if_icmp .ge 68, 3) := od_162 (a := 0) (b := 68) (by decide +kernel) (by decide +kernel)
theorem dX10_priceOf_37 : decode cX10_priceOf 37 = .ok (.aload_n 0, 1) := od_42  (by decide +kernel)
theorem dX10_priceOf_38 : decode cX10_priceOf 38 = .ok (.getfield 63, 3) := od_180 (a := 0) (b := 63) (by decide +kernel) (by decide)
theorem dX10_priceOf_41 : decode cX10_priceOf 41 = .ok (.iload 9, 2) := od_21 (n := 9) (by decide +kernel)
theorem dX10_priceOf_43 : decode cX10_priceOf 43 = .ok (.iconst 0, 1) := od_3  (by decide +kernel)
theorem dX10_priceOf_44 : decode cX10_priceOf 44 = .ok (.invokevirtual 87, 3) := od_182 (a := 0) (b := 87) (by decide +kernel) (by decide)
theorem dX10_priceOf_47 : decode cX10_priceOf 47 = .ok (.lstore 10, 2) := od_55 (n := 10) (by decide +kernel)
theorem dX10_priceOf_49 : decode cX10_priceOf 49 = .ok (.lload 10, 2) := od_22 (n := 10) (by decide +kernel)
theorem dX10_priceOf_51 : decode cX10_priceOf 51 = .ok (.lload_n 3, 1) := od_33  (by decide +kernel)
theorem dX10_priceOf_52 : decode cX10_priceOf 52 = .ok (.lcmp, 1) := od_148  (by decide +kernel)
theorem dX10_priceOf_53 : decode cX10_priceOf 53 = .ok (.ifCond .gt 43, 3) := od_157 (a := 0) (b := 43) (by decide +kernel) (by decide +kernel)
theorem dX10_priceOf_56 : decode cX10_priceOf 56 = .ok (.lload 10, 2) := od_22 (n := 10) (by decide +kernel)
theorem dX10_priceOf_58 : decode cX10_priceOf 58 = .ok (.lload 5, 2) := od_22 (n := 5) (by decide +kernel)
theorem dX10_priceOf_60 : decode cX10_priceOf 60 = .ok (.lcmp, 1) := od_148  (by decide +kernel)
theorem dX10_priceOf_61 : decode cX10_priceOf 61 = .ok (.ifCond .lt 35, 3) := od_155 (a := 0) (b := 35) (by decide +kernel) (by decide +kernel)
theorem dX10_priceOf_64 : decode cX10_priceOf 64 = .ok (.aload_n 0, 1) := od_42  (by decide +kernel)
theorem dX10_priceOf_65 : decode cX10_priceOf 65 = .ok (.getfield 63, 3) := od_180 (a := 0) (b := 63) (by decide +kernel) (by decide)
theorem dX10_priceOf_68 : decode cX10_priceOf 68 = .ok (.iload 9, 2) := od_21 (n := 9) (by decide +kernel)
theorem dX10_priceOf_70 : decode cX10_priceOf 70 = .ok (.iconst 2, 1) := od_5  (by decide +kernel)
theorem dX10_priceOf_71 : decode cX10_priceOf 71 = .ok (.invokevirtual 87, 3) := od_182 (a := 0) (b := 87) (by decide +kernel) (by decide)
theorem dX10_priceOf_74 : decode cX10_priceOf 74 = .ok (.iload_n 2, 1) := od_28  (by decide +kernel)
theorem dX10_priceOf_75 : decode cX10_priceOf 75 = .ok (.i2l, 1) := od_133  (by decide +kernel)
theorem dX10_priceOf_76 : decode cX10_priceOf 76 = .ok (.lcmp, 1) := od_148  (by decide +kernel)
theorem dX10_priceOf_77 : decode cX10_priceOf 77 = .ok (.ifCond .gt 19, 3) := od_157 (a := 0) (b := 19) (by decide +kernel) (by decide +kernel)
theorem dX10_priceOf_80 : decode cX10_priceOf 80 = .ok (.lload 10, 2) := od_22 (n := 10) (by decide +kernel)
theorem dX10_priceOf_82 : decode cX10_priceOf 82 = .ok (.lstore 5, 2) := od_55 (n := 5) (by decide +kernel)
theorem dX10_priceOf_84 : decode cX10_priceOf 84 = .ok (.aload_n 0, 1) := od_42  (by decide +kernel)
theorem dX10_priceOf_85 : decode cX10_priceOf 85 = .ok (.getfield 63, 3) := od_180 (a := 0) (b := 63) (by decide +kernel) (by decide)
theorem dX10_priceOf_88 : decode cX10_priceOf 88 = .ok (.iload 9, 2) := od_21 (n := 9) (by decide +kernel)
theorem dX10_priceOf_90 : decode cX10_priceOf 90 = .ok (.iconst 1, 1) := od_4  (by decide +kernel)
theorem dX10_priceOf_91 : decode cX10_priceOf 91 = .ok (.invokevirtual 87, 3) := od_182 (a := 0) (b := 87) (by decide +kernel) (by decide)
theorem dX10_priceOf_94 : decode cX10_priceOf 94 = .ok (.lstore 7, 2) := od_55 (n := 7) (by decide +kernel)
theorem dX10_priceOf_96 : decode cX10_priceOf 96 = .ok (.iinc 9 1, 3) := od_132 (a := 9) (b := 1) (by decide +kernel) (by decide +kernel)
theorem dX10_priceOf_99 : decode cX10_priceOf 99 = .ok (.goto (-74), 3) := od_167 (a := 255) (b := 182) (by decide +kernel) (by decide +kernel)
theorem dX10_priceOf_102 : decode cX10_priceOf 102 = .ok (.lload 7, 2) := od_22 (n := 7) (by decide +kernel)
theorem dX10_priceOf_104 : decode cX10_priceOf 104 = .ok (.lreturn, 1) := od_173  (by decide +kernel)
theorem gX10_copyFrom_X8_copyFrom : GoodIn WALL (wsV RX10 120 RX8 yX8_copyFrom wqX8_copyFrom) := wg_V wa_1498 wa_1499 wa_1500 wa_62 wa_1501
theorem gX10_copyFrom_X5_copyFrom : GoodIn WALL (wsV RX10 124 RX5 yX5_copyFrom wqX5_copyFrom) := wg_V wa_1503 wa_1504 wa_1505 wa_64 wa_1506
theorem gX10_copyFrom_X6_copyFrom : GoodIn WALL (wsV RX10 127 RX6 yX6_copyFrom wqX6_copyFrom) := wg_V wa_1512 wa_1513 wa_1514 wa_50 wa_1515
theorem gX10_copyFrom_X4_copyFrom : GoodIn WALL (wsV RX10 130 RX4 yX4_copyFrom wqX4_copyFrom) := wg_V wa_1517 wa_1518 wa_1519 wa_56 wa_1520
theorem dX10_copyFrom_0 : decode cX10_copyFrom 0 = .ok (.aload_n 0, 1) := od_42  (by decide +kernel)
theorem dX10_copyFrom_1 : decode cX10_copyFrom 1 = .ok (.aload_n 1, 1) := od_43  (by decide +kernel)
theorem dX10_copyFrom_2 : decode cX10_copyFrom 2 = .ok (.getfield 108, 3) := od_180 (a := 0) (b := 108) (by decide +kernel) (by decide)
theorem dX10_copyFrom_5 : decode cX10_copyFrom 5 = .ok (.putfield 108, 3) := od_181 (a := 0) (b := 108) (by decide +kernel) (by decide)
theorem dX10_copyFrom_8 : decode cX10_copyFrom 8 = .ok (.aload_n 0, 1) := od_42  (by decide +kernel)
theorem dX10_copyFrom_9 : decode cX10_copyFrom 9 = .ok (.aload_n 1, 1) := od_43  (by decide +kernel)
theorem dX10_copyFrom_10 : decode cX10_copyFrom 10 = .ok (.getfield 9, 3) := od_180 (a := 0) (b := 9) (by decide +kernel) (by decide)
theorem dX10_copyFrom_13 : decode cX10_copyFrom 13 = .ok (.putfield 9, 3) := od_181 (a := 0) (b := 9) (by decide +kernel) (by decide)
theorem dX10_copyFrom_16 : decode cX10_copyFrom 16 = .ok (.aload_n 0, 1) := od_42  (by decide +kernel)
theorem dX10_copyFrom_17 : decode cX10_copyFrom 17 = .ok (.aload_n 1, 1) := od_43  (by decide +kernel)
theorem dX10_copyFrom_18 : decode cX10_copyFrom 18 = .ok (.getfield 15, 3) := od_180 (a := 0) (b := 15) (by decide +kernel) (by decide)
theorem dX10_copyFrom_21 : decode cX10_copyFrom 21 = .ok (.putfield 15, 3) := od_181 (a := 0) (b := 15) (by decide +kernel) (by decide)
theorem dX10_copyFrom_24 : decode cX10_copyFrom 24 = .ok (.aload_n 0, 1) := od_42  (by decide +kernel)
theorem dX10_copyFrom_25 : decode cX10_copyFrom 25 = .ok (.aload_n 1, 1) := od_43  (by decide +kernel)
theorem dX10_copyFrom_26 : decode cX10_copyFrom 26 = .ok (.getfield 111, 3) := od_180 (a := 0) (b := 111) (by decide +kernel) (by decide)
theorem dX10_copyFrom_29 : decode cX10_copyFrom 29 = .ok (.putfield 111, 3) := od_181 (a := 0) (b := 111) (by decide +kernel) (by decide)
theorem dX10_copyFrom_32 : decode cX10_copyFrom 32 = .ok (.aload_n 0, 1) := od_42  (by decide +kernel)
theorem dX10_copyFrom_33 : decode cX10_copyFrom 33 = .ok (.aload_n 1, 1) := od_43  (by decide +kernel)
theorem dX10_copyFrom_34 : decode cX10_copyFrom 34 = .ok (.getfield 78, 3) := od_180 (a := 0) (b := 78) (by decide +kernel) (by decide)
theorem dX10_copyFrom_37 : decode cX10_copyFrom 37 = .ok (.putfield 78, 3) := od_181 (a := 0) (b := 78) (by decide +kernel) (by decide)
theorem dX10_copyFrom_40 : decode cX10_copyFrom 40 = .ok (.aload_n 0, 1) := od_42  (by decide +kernel)
theorem dX10_copyFrom_41 : decode cX10_copyFrom 41 = .ok (.aload_n 1, 1) := od_43  (by decide +kernel)
theorem dX10_copyFrom_42 : decode cX10_copyFrom 42 = .ok (.getfield 81, 3) := od_180 (a := 0) (b := 81) (by decide +kernel) (by decide)
theorem dX10_copyFrom_45 : decode cX10_copyFrom 45 = .ok (.putfield 81, 3) := od_181 (a := 0) (b := 81) (by decide +kernel) (by decide)
theorem dX10_copyFrom_48 : decode cX10_copyFrom 48 = .ok (.aload_n 0, 1) := od_42  (by decide +kernel)
theorem dX10_copyFrom_49 : decode cX10_copyFrom 49 = .ok (.aload_n 1, 1) := od_43  (by decide +kernel)
theorem dX10_copyFrom_50 : decode cX10_copyFrom 50 = .ok (.getfield 84, 3) := od_180 (a := 0) (b := 84) (by decide +kernel) (by decide)
theorem dX10_copyFrom_53 : decode cX10_copyFrom 53 = .ok (.putfield 84, 3) := od_181 (a := 0) (b := 84) (by decide +kernel) (by decide)
theorem dX10_copyFrom_56 : decode cX10_copyFrom 56 = .ok (.aload_n 1, 1) := od_43  (by decide +kernel)
theorem dX10_copyFrom_57 : decode cX10_copyFrom 57 = .ok (.getfield 18, 3) := od_180 (a := 0) (b := 18) (by decide +kernel) (by decide)
theorem dX10_copyFrom_60 : decode cX10_copyFrom 60 = .ok (.iconst 0, 1) := od_3  (by decide +kernel)
theorem dX10_copyFrom_61 : decode cX10_copyFrom 61 = .ok (.aload_n 0, 1) := od_42  (by decide +kernel)
theorem dX10_copyFrom_62 : decode cX10_copyFrom 62 = .ok (.getfield 18, 3) := od_180 (a := 0) (b := 18) (by decide +kernel) (by decide)
theorem dX10_copyFrom_65 : decode cX10_copyFrom 65 = .ok (.iconst 0, 1) := od_3  (by decide +kernel)
theorem dX10_copyFrom_66 : decode cX10_copyFrom 66 = .ok (.bipush 25, 2) := od_16 (a := 25) (by decide +kernel) (by decide +kernel)
theorem dX10_copyFrom_68 : decode cX10_copyFrom 68 = .ok (.invokestatic 114, 3) := od_184 (a := 0) (b := 114) (by decide +kernel) (by decide)
theorem dX10_copyFrom_71 : decode cX10_copyFrom 71 = .ok (.aload_n 1, 1) := od_43  (by decide +kernel)
theorem dX10_copyFrom_72 : decode cX10_copyFrom 72 = .ok (.getfield 22, 3) := od_180 (a := 0) (b := 22) (by decide +kernel) (by decide)
theorem dX10_copyFrom_75 : decode cX10_copyFrom 75 = .ok (.iconst 0, 1) := od_3  (by decide +kernel)
theorem dX10_copyFrom_76 : decode cX10_copyFrom 76 = .ok (.aload_n 0, 1) := od_42  (by decide +kernel)
theorem dX10_copyFrom_77 : decode cX10_copyFrom 77 = .ok (.getfield 22, 3) := od_180 (a := 0) (b := 22) (by decide +kernel) (by decide)
theorem dX10_copyFrom_80 : decode cX10_copyFrom 80 = .ok (.iconst 0, 1) := od_3  (by decide +kernel)
theorem dX10_copyFrom_81 : decode cX10_copyFrom 81 = .ok (.bipush 100, 2) := od_16 (a := 100) (by decide +kernel) (by decide +kernel)
theorem dX10_copyFrom_83 : decode cX10_copyFrom 83 = .ok (.invokestatic 114, 3) := od_184 (a := 0) (b := 114) (by decide +kernel) (by decide)
theorem dX10_copyFrom_86 : decode cX10_copyFrom 86 = .ok (.iconst 0, 1) := od_3  (by decide +kernel)
theorem dX10_copyFrom_87 : decode cX10_copyFrom 87 = .ok (.istore_n 2, 1) := od_61  (by decide +kernel)
theorem dX10_copyFrom_88 : decode cX10_copyFrom 88 = .ok (.iload_n 2, 1) := od_28  (by decide +kernel)
theorem dX10_copyFrom_89 : decode cX10_copyFrom 89 = .ok (.bipush 12, 2) := od_16 (a := 12) (by decide +kernel) (by decide +kernel)
theorem dX10_copyFrom_91 : decode cX10_copyFrom 91 = .ok (.if_icmp .ge 21, 3) := od_162 (a := 0) (b := 21) (by decide +kernel) (by decide +kernel)
theorem dX10_copyFrom_94 : decode cX10_copyFrom 94 = .ok (.aload_n 0, 1) := od_42  (by decide +kernel)
theorem dX10_copyFrom_95 : decode cX10_copyFrom 95 = .ok (.getfield 39, 3) := od_180 (a := 0) (b := 39) (by decide +kernel) (by decide)
theorem dX10_copyFrom_98 : decode cX10_copyFrom 98 = .ok (.iload_n 2, 1) := od_28  (by decide +kernel)
theorem dX10_copyFrom_99 : decode cX10_copyFrom 99 = .ok (.aload_n 1, 1) := od_43  (by decide +kernel)
theorem dX10_copyFrom_100 : decode cX10_copyFrom 100 = .ok (.getfield 39, 3) := od_180 (a := 0) (b := 39) (by decide +kernel) (by decide)
theorem dX10_copyFrom_103 : decode cX10_copyFrom 103 = .ok (.iload_n 2, 1) := od_28  (by decide +kernel)
theorem dX10_copyFrom_104 : decode cX10_copyFrom 104 = .ok (.aaload, 1) := od_50  (by decide +kernel)
theorem dX10_copyFrom_105 : decode cX10_copyFrom 105 = .ok (.aastore, 1) := od_83  (by decide +kernel)
theorem dX10_copyFrom_106 : decode cX10_copyFrom 106 = .ok (.iinc 2 1, 3) := od_132 (a := 2) (b := 1) (by decide +kernel) (by decide +kernel)
theorem dX10_copyFrom_109 : decode cX10_copyFrom 109 = .ok (.goto (-21), 3) := od_167 (a := 255) (b := 235) (by decide +kernel) (by decide +kernel)
theorem dX10_copyFrom_112 : decode cX10_copyFrom 112 = .ok (.iconst 0, 1) := od_3  (by decide +kernel)
theorem dX10_copyFrom_113 : decode cX10_copyFrom 113 = .ok (.istore_n 2, 1) := od_61  (by decide +kernel)
theorem dX10_copyFrom_114 : decode cX10_copyFrom 114 = .ok (.iload_n 2, 1) := od_28  (by decide +kernel)
theorem dX10_copyFrom_115 : decode cX10_copyFrom 115 = .ok (.aload_n 0, 1) := od_42  (by decide +kernel)
theorem dX10_copyFrom_116 : decode cX10_copyFrom 116 = .ok (.getfield 78, 3) := od_180 (a := 0) (b := 78) (by decide +kernel) (by decide)
theorem dX10_copyFrom_119 : decode cX10_copyFrom 119 = .ok (.if_icmp .ge 24, 3) := od_162 (a := 0) (b := 24) (by decide +kernel) (by decide +kernel)
theorem dX10_copyFrom_122 : decode cX10_copyFrom 122 = .ok (.aload_n 0, 1) := od_42  (by decide +kernel)
theorem dX10_copyFrom_123 : decode cX10_copyFrom 123 = .ok (.getfield 27, 3) := od_180 (a := 0) (b := 27) (by decide +kernel) (by decide)
theorem dX10_copyFrom_126 : decode cX10_copyFrom 126 = .ok (.iload_n 2, 1) := od_28  (by decide +kernel)
theorem dX10_copyFrom_127 : decode cX10_copyFrom 127 = .ok (.aaload, 1) := od_50  (by decide +kernel)
theorem dX10_copyFrom_128 : decode cX10_copyFrom 128 = .ok (.aload_n 1, 1) := od_43  (by decide +kernel)
theorem dX10_copyFrom_129 : decode cX10_copyFrom 129 = .ok (.getfield 27, 3) := od_180 (a := 0) (b := 27) (by decide +kernel) (by decide)
theorem dX10_copyFrom_132 : decode cX10_copyFrom 132 = .ok (.iload_n 2, 1) := od_28  (by decide +kernel)
theorem dX10_copyFrom_133 : decode cX10_copyFrom 133 = .ok (.aaload, 1) := od_50  (by decide +kernel)
theorem dX10_copyFrom_134 : decode cX10_copyFrom 134 = .ok (.invokevirtual 120, 3) := od_182 (a := 0) (b := 120) (by decide +kernel) (by decide)
theorem dX10_copyFrom_137 : decode cX10_copyFrom 137 = .ok (.iinc 2 1, 3) := od_132 (a := 2) (b := 1) (by decide +kernel) (by decide +kernel)
theorem dX10_copyFrom_140 : decode cX10_copyFrom 140 = .ok (.goto (-26), 3) := od_167 (a := 255) (b := 230) (by decide +kernel) (by decide +kernel)
theorem dX10_copyFrom_143 : decode cX10_copyFrom 143 = .ok (.iconst 0, 1) := od_3  (by decide +kernel)
theorem dX10_copyFrom_144 : decode cX10_copyFrom 144 = .ok (.istore_n 2, 1) := od_61  (by decide +kernel)
theorem dX10_copyFrom_145 : decode cX10_copyFrom 145 = .ok (.iload_n 2, 1) := od_28  (by decide +kernel)
theorem dX10_copyFrom_146 : decode cX10_copyFrom 146 = .ok (.aload_n 0, 1) := od_42  (by decide +kernel)
theorem dX10_copyFrom_147 : decode cX10_copyFrom 147 = .ok (.getfield 81, 3) := od_180 (a := 0) (b := 81) (by decide +kernel) (by decide)
theorem dX10_copyFrom_150 : decode cX10_copyFrom 150 = .ok (.if_icmp .ge 24, 3) := od_162 (a := 0) (b := 24) (by decide +kernel) (by decide +kernel)
theorem dX10_copyFrom_153 : decode cX10_copyFrom 153 = .ok (.aload_n 0, 1) := od_42  (by decide +kernel)
theorem dX10_copyFrom_154 : decode cX10_copyFrom 154 = .ok (.getfield 33, 3) := od_180 (a := 0) (b := 33) (by decide +kernel) (by decide)
theorem dX10_copyFrom_157 : decode cX10_copyFrom 157 = .ok (.iload_n 2, 1) := od_28  (by decide +kernel)
theorem dX10_copyFrom_158 : decode cX10_copyFrom 158 = .ok (.aaload, 1) := od_50  (by decide +kernel)
theorem dX10_copyFrom_159 : decode cX10_copyFrom 159 = .ok (.aload_n 1, 1) := od_43  (by decide +kernel)
theorem dX10_copyFrom_160 : decode cX10_copyFrom 160 = .ok (.getfield 33, 3) := od_180 (a := 0) (b := 33) (by decide +kernel) (by decide)
theorem dX10_copyFrom_163 : decode cX10_copyFrom 163 = .ok (.iload_n 2, 1) := od_28  (by decide +kernel)
theorem dX10_copyFrom_164 : decode cX10_copyFrom 164 = .ok (.aaload, 1) := od_50  (by decide +kernel)
theorem dX10_copyFrom_165 : decode cX10_copyFrom 165 = .ok (.invokevirtual 124, 3) := od_182 (a := 0) (b := 124) (by decide +kernel) (by decide)
theorem dX10_copyFrom_168 : decode cX10_copyFrom 168 = .ok (.iinc 2 1, 3) := od_132 (a := 2) (b := 1) (by decide +kernel) (by decide +kernel)
theorem dX10_copyFrom_171 : decode cX10_copyFrom 171 = .ok (.goto (-26), 3) := od_167 (a := 255) (b := 230) (by decide +kernel) (by decide +kernel)
theorem dX10_copyFrom_174 : decode cX10_copyFrom 174 = .ok (.aload_n 0, 1) := od_42  (by decide +kernel)
theorem dX10_copyFrom_175 : decode cX10_copyFrom 175 = .ok (.getfield 48, 3) := od_180 (a := 0) (b := 48) (by decide +kernel) (by decide)
theorem dX10_copyFrom_178 : decode cX10_copyFrom 178 = .ok (.aload_n 1, 1) := od_43  (by decide +kernel)
theorem dX10_copyFrom_179 : decode cX10_copyFrom 179 = .ok (.getfield 48, 3) := od_180 (a := 0) (b := 48) (by decide +kernel) (by decide)
theorem dX10_copyFrom_182 : decode cX10_copyFrom 182 = .ok (.invokevirtual 127, 3) := od_182 (a := 0) (b := 127) (by decide +kernel) (by decide)
theorem dX10_copyFrom_185 : decode cX10_copyFrom 185 = .ok (.aload_n 0, 1) := od_42  (by decide +kernel)
theorem dX10_copyFrom_186 : decode cX10_copyFrom 186 = .ok (.getfield 52, 3) := od_180 (a := 0) (b := 52) (by decide +kernel) (by decide)
theorem dX10_copyFrom_189 : decode cX10_copyFrom 189 = .ok (.aload_n 1, 1) := od_43  (by decide +kernel)
theorem dX10_copyFrom_190 : decode cX10_copyFrom 190 = .ok (.getfield 52, 3) := od_180 (a := 0) (b := 52) (by decide +kernel) (by decide)
theorem dX10_copyFrom_193 : decode cX10_copyFrom 193 = .ok (.invokevirtual 127, 3) := od_182 (a := 0) (b := 127) (by decide +kernel) (by decide)
theorem dX10_copyFrom_196 : decode cX10_copyFrom 196 = .ok (.aload_n 0, 1) := od_42  (by decide +kernel)
theorem dX10_copyFrom_197 : decode cX10_copyFrom 197 = .ok (.getfield 55, 3) := od_180 (a := 0) (b := 55) (by decide +kernel) (by decide)
theorem dX10_copyFrom_200 : decode cX10_copyFrom 200 = .ok (.aload_n 1, 1) := od_43  (by decide +kernel)
theorem dX10_copyFrom_201 : decode cX10_copyFrom 201 = .ok (.getfield 55, 3) := od_180 (a := 0) (b := 55) (by decide +kernel) (by decide)
theorem dX10_copyFrom_204 : decode cX10_copyFrom 204 = .ok (.invokevirtual 127, 3) := od_182 (a := 0) (b := 127) (by decide +kernel) (by decide)
theorem dX10_copyFrom_207 : decode cX10_copyFrom 207 = .ok (.aload_n 0, 1) := od_42  (by decide +kernel)
theorem dX10_copyFrom_208 : decode cX10_copyFrom 208 = .ok (.getfield 63, 3) := od_180 (a := 0) (b := 63) (by decide +kernel) (by decide)
theorem dX10_copyFrom_211 : decode cX10_copyFrom 211 = .ok (.aload_n 1, 1) := od_43  (by decide +kernel)
theorem dX10_copyFrom_212 : decode cX10_copyFrom 212 = .ok (.getfield 63, 3) := od_180 (a := 0) (b := 63) (by decide +kernel) (by decide)
theorem dX10_copyFrom_215 : decode cX10_copyFrom 215 = .ok (.invokevirtual 130, 3) := od_182 (a := 0) (b := 130) (by decide +kernel) (by decide)
theorem dX10_copyFrom_218 : decode cX10_copyFrom 218 = .ok (.aload_n 0, 1) := od_42  (by decide +kernel)
theorem dX10_copyFrom_219 : decode cX10_copyFrom 219 = .ok (.getfield 67, 3) := od_180 (a := 0) (b := 67) (by decide +kernel) (by decide)
theorem dX10_copyFrom_222 : decode cX10_copyFrom 222 = .ok (.aload_n 1, 1) := od_43  (by decide +kernel)
theorem dX10_copyFrom_223 : decode cX10_copyFrom 223 = .ok (.getfield 67, 3) := od_180 (a := 0) (b := 67) (by decide +kernel) (by decide)
theorem dX10_copyFrom_226 : decode cX10_copyFrom 226 = .ok (.invokevirtual 130, 3) := od_182 (a := 0) (b := 130) (by decide +kernel) (by decide)
theorem dX10_copyFrom_229 : decode cX10_copyFrom 229 = .ok (.aload_n 0, 1) := od_42  (by decide +kernel)
theorem dX10_copyFrom_230 : decode cX10_copyFrom 230 = .ok (.getfield 70, 3) := od_180 (a := 0) (b := 70) (by decide +kernel) (by decide)
theorem dX10_copyFrom_233 : decode cX10_copyFrom 233 = .ok (.aload_n 1, 1) := od_43  (by decide +kernel)
theorem dX10_copyFrom_234 : decode cX10_copyFrom 234 = .ok (.getfield 70, 3) := od_180 (a := 0) (b := 70) (by decide +kernel) (by decide)
theorem dX10_copyFrom_237 : decode cX10_copyFrom 237 = .ok (.invokevirtual 130, 3) := od_182 (a := 0) (b := 130) (by decide +kernel) (by decide)
theorem dX10_copyFrom_240 : decode cX10_copyFrom 240 = .ok (.aload_n 0, 1) := od_42  (by decide +kernel)
theorem dX10_copyFrom_241 : decode cX10_copyFrom 241 = .ok (.getfield 73, 3) := od_180 (a := 0) (b := 73) (by decide +kernel) (by decide)
theorem dX10_copyFrom_244 : decode cX10_copyFrom 244 = .ok (.aload_n 1, 1) := od_43  (by decide +kernel)
theorem dX10_copyFrom_245 : decode cX10_copyFrom 245 = .ok (.getfield 73, 3) := od_180 (a := 0) (b := 73) (by decide +kernel) (by decide)
theorem dX10_copyFrom_248 : decode cX10_copyFrom 248 = .ok (.invokevirtual 130, 3) := od_182 (a := 0) (b := 130) (by decide +kernel) (by decide)
theorem dX10_copyFrom_251 : decode cX10_copyFrom 251 = .ok (.return_, 1) := od_177  (by decide +kernel)
theorem gX11_isOrder_X11_within : GoodIn WALL (va_wsS RX11 51 yX11_within wqX11_within) := wg_S wa_180 wa_181 wa_2 wa_182
theorem gX11_isOrder_X11_isHour : GoodIn WALL (va_wsS RX11 229 yX11_isHour wqX11_isHour) := wg_S wa_323 wa_324 wa_2 wa_325
theorem dX11_isOrder_0 : decode cX11_isOrder 0 = .ok (.iload_n 0, 1) := od_26  (by decide +kernel)
theorem dX11_isOrder_1 : decode cX11_isOrder 1 = .ok (.tableswitch 46 0 3 #[31, 33, 33, 41], 31) := by decide +kernel
theorem dX11_isOrder_32 : decode cX11_isOrder 32 = .ok (.iconst 1, 1) := od_4  (by decide +kernel)
theorem dX11_isOrder_33 : decode cX11_isOrder 33 = .ok (.ireturn, 1) := od_172  (by decide +kernel)
theorem dX11_isOrder_34 : decode cX11_isOrder 34 = .ok (.iload_n 1, 1) := od_27  (by decide +kernel)
theorem dX11_isOrder_35 : decode cX11_isOrder 35 = .ok (.iconst 1, 1) := od_4  (by decide +kernel)
theorem dX11_isOrder_36 : decode cX11_isOrder 36 = .ok (.ldc 76, 2) := od_18 (n := 76) (by decide +kernel)
theorem dX11_isOrder_38 : decode cX11_isOrder 38 = .ok (.invokestatic 51, 3) := od_184 (a := 0) (b := 51) (by decide +kernel) (by decide)
theorem dX11_isOrder_41 : decode cX11_isOrder 41 = .ok (.ireturn, 1) := od_172  (by decide +kernel)
theorem dX11_isOrder_42 : decode cX11_isOrder 42 = .ok (.iload_n 1, 1) := od_27  (by decide +kernel)
theorem dX11_isOrder_43 : decode cX11_isOrder 43 = .ok (.invokestatic 229, 3) := od_184 (a := 0) (b := 229) (by decide +kernel) (by decide)
theorem dX11_isOrder_46 : decode cX11_isOrder 46 = .ok (.ireturn, 1) := od_172  (by decide +kernel)
theorem dX11_isOrder_47 : decode cX11_isOrder 47 = .ok (.iconst 0, 1) := od_3  (by decide +kernel)
theorem dX11_isOrder_48 : decode cX11_isOrder 48 = .ok (.ireturn, 1) := od_172  (by decide +kernel)
theorem dJ7_rangeCheck_23922_0 : decode cJ7_rangeCheck_23922 0 = .ok (.iload_n 1, 1) := od_27  (by decide +kernel)
theorem dJ7_rangeCheck_23922_1 : decode cJ7_rangeCheck_23922 1 = .ok (.iload_n 2, 1) := od_28  (by decide +kernel)
theorem dJ7_rangeCheck_23922_2 : decode cJ7_rangeCheck_23922 2 = .ok (.if_icmp .le 44, 3) := od_164 (a := 0) (b := 44) (by decide +kernel) (by decide +kernel)
theorem dJ7_rangeCheck_23922_46 : decode cJ7_rangeCheck_23922 46 = .ok (.iload_n 1, 1) := od_27  (by decide +kernel)
theorem dJ7_rangeCheck_23922_47 : decode cJ7_rangeCheck_23922 47 = .ok (.ifCond .ge 12, 3) := od_156 (a := 0) (b := 12) (by decide +kernel) (by decide +kernel)
theorem dJ7_rangeCheck_23922_59 : decode cJ7_rangeCheck_23922 59 = .ok (.iload_n 2, 1) := od_28  (by decide +kernel)
theorem dJ7_rangeCheck_23922_60 : decode cJ7_rangeCheck_23922 60 = .ok (.iload_n 0, 1) := od_26  (by decide +kernel)
theorem dJ7_rangeCheck_23922_61 : decode cJ7_rangeCheck_23922 61 = .ok (.if_icmp .le 12, 3) := od_164 (a := 0) (b := 12) (by decide +kernel) (by decide +kernel)
theorem dJ7_rangeCheck_23922_73 : decode cJ7_rangeCheck_23922 73 = .ok (.return_, 1) := od_177  (by decide +kernel)
theorem gJ7_fill_bad5a_J7_rangeCheck_23922 : GoodIn WALL (va_wsS RJ7 13 yJ7_rangeCheck_23922 wqJ7_rangeCheck_23922) := wg_S wa_521 wa_522 wa_199 wa_523
theorem dJ7_fill_bad5a_0 : decode cJ7_fill_bad5a 0 = .ok (.aload_n 0, 1) := od_42  (by decide +kernel)
theorem dJ7_fill_bad5a_1 : decode cJ7_fill_bad5a 1 = .ok (.arraylength, 1) := od_190  (by decide +kernel)
theorem dJ7_fill_bad5a_2 : decode cJ7_fill_bad5a 2 = .ok (.iload_n 1, 1) := od_27  (by decide +kernel)
theorem dJ7_fill_bad5a_3 : decode cJ7_fill_bad5a 3 = .ok (.iload_n 2, 1) := od_28  (by decide +kernel)
theorem dJ7_fill_bad5a_4 : decode cJ7_fill_bad5a 4 = .ok (.invokestatic 13, 3) := od_184 (a := 0) (b := 13) (by decide +kernel) (by decide)
theorem dJ7_fill_bad5a_7 : decode cJ7_fill_bad5a 7 = .ok (.iload_n 1, 1) := od_27  (by decide +kernel)
theorem dJ7_fill_bad5a_8 : decode cJ7_fill_bad5a 8 = .ok (.istore 5, 2) := od_54 (n := 5) (by decide +kernel)
theorem dJ7_fill_bad5a_10 : decode cJ7_fill_bad5a 10 = .ok (.iload 5, 2) := od_21 (n := 5) (by decide +kernel)
theorem dJ7_fill_bad5a_12 : decode cJ7_fill_bad5a 12 = .ok (.iload_n 2, 1) := od_28  (by decide +kernel)
theorem dJ7_fill_bad5a_13 : decode cJ7_fill_bad5a 13 = .ok (.if_icmp .ge 14, 3) := od_162 (a := 0) (b := 14) (by decide +kernel) (by decide +kernel)
theorem dJ7_fill_bad5a_16 : decode cJ7_fill_bad5a 16 = .ok (.aload_n 0, 1) := od_42  (by decide +kernel)
theorem dJ7_fill_bad5a_17 : decode cJ7_fill_bad5a 17 = .ok (.iload 5, 2) := od_21 (n := 5) (by decide +kernel)
theorem dJ7_fill_bad5a_19 : decode cJ7_fill_bad5a 19 = .ok (.lload_n 3, 1) := od_33  (by decide +kernel)
theorem dJ7_fill_bad5a_20 : decode cJ7_fill_bad5a 20 = .ok (.lastore, 1) := od_80  (by decide +kernel)
theorem dJ7_fill_bad5a_21 : decode cJ7_fill_bad5a 21 = .ok (.iinc 5 1, 3) := od_132 (a := 5) (b := 1) (by decide +kernel) (by decide +kernel)
theorem dJ7_fill_bad5a_24 : decode cJ7_fill_bad5a 24 = .ok (.goto (-14), 3) := od_167 (a := 255) (b := 242) (by decide +kernel) (by decide +kernel)
theorem dJ7_fill_bad5a_27 : decode cJ7_fill_bad5a 27 = .ok (.return_, 1) := od_177  (by decide +kernel)
end
section
set_option maxHeartbeats 4000000 in
set_option maxRecDepth 100000 in
theorem t_J7_rangeCheck_23922 (l : Launch) (dC : Nat → ClassId) (dI : Nat → Nat → Nat) (sz : Nat) (n : Int32) (v : Int32) (u : Int32) (Z_n : Int) (Z_v : Int) (Z_u : Int) (h1 : 0 ≤ Z_v ∧ Z_v ≤ Z_u ∧ Z_u ≤ Z_n) (hZ_n : n.toInt = Z_n) (hZ_v : v.toInt = Z_v) (hZ_u : u.toInt = Z_u) : Met l yJ7_rangeCheck_23922 wqJ7_rangeCheck_23922 ({ frames := 2, cells := 0, slots := 0, locals := 400 }) (va_Pc [.int n, .int v, .int u] (pz_B dC dI [] [] sz)) (va_Sv (fun _ => True)) 0 0 (fun _ => False) := by
  refine Met.ofW (cc := cJ7_rangeCheck_23922) (maxL := 3) (ret := none) (by decide) rfl ?_
  intro p e s m args below meth c s₁ B hml hv
  obtain ⟨rfl, hsz, hP, hK, hD0, hN⟩ := hv
  have hx := B.exec
  have hb := B.bytes
  have hr := B.returns
  have hts := fun (w : Cond) (h : w ∈ WALL) => atoms_spec (ws := wqJ7_rangeCheck_23922) B.pre w (List.mem_cons_of_mem _ h)
  have hown : s.vm.findClass RJ7 = some m.cls := findClass_of_methodNamed B.named
  have hlocks := B.notSynchronized
  subst hsz
  have hD := hD0
  have hS : va_S (fun _ => True) s.heap s.heap [] := va_S.rf
  have hl := lv_entry ([.int n, .int v, .int u]) (n := 3) (Nat.le_of_ble_eq_true rfl)
  rw [lg_entry_eq]
  generalize (lg_sl ([.int n, .int v, .int u]) ++ List.replicate (3 - (lg_sl ([.int n, .int v, .int u])).length) Slot.unset).toArray = ls at hl ⊢
  have hl : lv_has ls 3 [(0, .int n), (1, .int v), (2, .int u)] := hl
  refine lv_iload_n hx hb dJ7_rangeCheck_23922_0 rfl (lv_at hl 1 rfl) ?_
  refine lv_iload_n hx hb dJ7_rangeCheck_23922_1 rfl (lv_at hl 2 rfl) ?_
  refine lv_icmp_le (tgt := 46) hx hb dJ7_rangeCheck_23922_2 (by decide) (fun c1 => ?_) (fun c1 => ?_)
  · have ic1 : Z_v ≤ Z_u := zi_le hZ_v hZ_u c1
    refine lv_iload_n hx hb dJ7_rangeCheck_23922_46 rfl (lv_at hl 1 rfl) ?_
    refine lv_if_ge (tgt := 59) hx hb dJ7_rangeCheck_23922_47 (by decide) (fun c2 => ?_) (fun c2 => ?_)
    · have ic2 : Z_v ≥ 0 := zi_ge hZ_v rfl c2
      refine lv_iload_n hx hb dJ7_rangeCheck_23922_59 rfl (lv_at hl 2 rfl) ?_
      refine lv_iload_n hx hb dJ7_rangeCheck_23922_60 rfl (lv_at hl 0 rfl) ?_
      refine lv_icmp_le (tgt := 73) hx hb dJ7_rangeCheck_23922_61 (by decide) (fun c3 => ?_) (fun c3 => ?_)
      · have ic3 : Z_u ≤ Z_n := zi_le hZ_u hZ_n c3
        exact W.vret hx hb hr (fun t ht hW => ⟨rfl, trivial, ht⟩) (fun _ h => by cases h) dJ7_rangeCheck_23922_73
      · have ic3 : Z_u > Z_n := zi_lef hZ_u hZ_n c3
        exfalso; omega
    · have ic2 : Z_v < 0 := zi_gef hZ_v rfl c2
      exfalso; omega
  · have ic1 : Z_v > Z_u := zi_lef hZ_v hZ_u c1
    exfalso; omega
set_option maxHeartbeats 4000000 in
set_option maxRecDepth 100000 in
theorem t_J7_fill_bad5a (l : Launch) (dC : Nat → ClassId) (dI : Nat → Nat → Nat) (sz : Nat) (Ω : Nat → Nat → (Nat → Nat) → va_E → Prop) (κ : Nat → ClassId) (τ ν : Nat → Nat) (ρ : Nat → Nat → Nat) (L : List Nat) (f : Nat → va_E) (hG : tp_G τ ν ρ L) (hT : tp_T Ω κ τ ν ρ f) (h0 : Nat) (v : Int32) (u : Int32) (x : Int64) (ht_h0 : τ h0 = 21) (hn : 0 ≤ v.toInt ∧ v.toInt ≤ u.toInt ∧ u.toInt ≤ (ν h0 : Int) ∧ ν h0 ≤ 1000) : Met l yJ7_fill_bad5a wqJ7_fill_bad5a ({ frames := 3, cells := 0, slots := 0, locals := 800 }) (va_Pc [.ref h0, .int v, .int u, .long x] (pz_B dC dI (tp_K κ) (va_pl L f) sz)) (va_Qv (fun (f1 : Nat → va_E) => tp_T Ω κ τ ν ρ f1 ∧ tp_F τ [21] f f1 ∧ True) (fun (f1 : Nat → va_E) (t : State) => pz_E dC dI (tp_K κ) (va_A (va_pl L f) sz) (va_pl L f1) t) (va_A (va_pl L f) sz)) 0 0 (va_A (va_pl L f) sz) := by
  refine Met.ofW (cc := cJ7_fill_bad5a) (maxL := 6) (ret := none) (by decide) rfl ?_
  intro p e s m args below meth c s₁ B hml hv
  obtain ⟨rfl, hsz, hP, hK, hD0, hN⟩ := hv
  have hx := B.exec
  have hb := B.bytes
  have hr := B.returns
  have hts := fun (w : Cond) (h : w ∈ WALL) => atoms_spec (ws := wqJ7_fill_bad5a) B.pre w (List.mem_cons_of_mem _ h)
  have hown : s.vm.findClass RJ7 = some m.cls := findClass_of_methodNamed B.named
  have hlocks := B.notSynchronized
  subst hsz
  have hD := hD0.self (sz := s.heap.size)
  generalize hAe : va_A (va_pl L f) s.heap.size = A at hD ⊢
  have hA : ∀ q : Nat, s.heap.size ≤ q → A q := fun q h => by rw [← hAe]; exact Or.inr h
  have hS : va_S A s.heap s.heap [] := va_S.rf
  have hR : tp_F τ [21] f f := tp_F.rf
  have hl := lv_entry ([.ref h0, .int v, .int u, .long x]) (n := 6) (Nat.le_of_ble_eq_true rfl)
  rw [lg_entry_eq]
  generalize (lg_sl ([.ref h0, .int v, .int u, .long x]) ++ List.replicate (6 - (lg_sl ([.ref h0, .int v, .int u, .long x])).length) Slot.unset).toArray = ls at hl ⊢
  have hl : lv_has ls 6 [(0, .ref h0), (1, .int v), (2, .int u), (3, .long x)] := hl
  refine lv_aload_n hx hb dJ7_fill_bad5a_0 rfl (lv_at hl 0 rfl) ?_
  refine tpk_21 hT ht_h0 rfl (fun g2 hf_o1 => ?_)
  refine tpk_pos (tp_in hG ht_h0 (by decide)) hf_o1 (fun q3 eq3 => ?_)
  obtain ⟨z4, ez4⟩ : ∃ y : Int32, y = Int32.ofNat (ν h0) := ⟨_, rfl⟩
  have iz4 : z4.toInt = ((ν h0) : Int) := zi_ofNat ez4 (by omega)
  refine va_alen hx hb hK hP q3 1 eq3 rfl ez4.symm dJ7_fill_bad5a_1 ?_
  refine lv_iload_n hx hb dJ7_fill_bad5a_2 rfl (lv_at hl 1 rfl) ?_
  refine lv_iload_n hx hb dJ7_fill_bad5a_3 rfl (lv_at hl 2 rfl) ?_
  refine tp_callv0 (va_runS (As := [.int z4, .int v, .int u]) (rest := []) ⟨hx, hb, hml, hown, hts⟩ (t_J7_rangeCheck_23922 l dC dI _ z4 v u (z4.toInt) (v.toInt) (u.toInt) (by omega) rfl rfl rfl) (va_cwS 3 hts gJ7_fill_bad5a_J7_rangeCheck_23922 rfl rfl rfl pd_J7_rangeCheck_23922 ⟨Nat.le_of_ble_eq_true rfl, Nat.le_of_ble_eq_true rfl⟩) ⟨pz_blind, pz_pre pz_P0 (hK.sub (tys' := []) [] rfl) (pz_D0 (A := fun _ => True)) hN⟩ rfl rfl hl.1 rfl (lv_room (Nat.le_of_ble_eq_true rfl)) dJ7_fill_bad5a_4 ⟨Nat.le_of_ble_eq_true rfl, Nat.le_of_ble_eq_true rfl⟩) ?_
  refine lv_iload_n hx hb dJ7_fill_bad5a_7 rfl (lv_at hl 1 rfl) ?_
  refine lv_istore (lv' := [(5, .int v), (0, .ref h0), (1, .int v), (2, .int u), (3, .long x)]) hx hb dJ7_fill_bad5a_8 hl (by decide) rfl (fun ls hl => ?_)
  refine pz_loop (fun n0 H locs ls => ∃ f9 : Nat → va_E, ∃ w7 : Int32, n0 = ((u.toInt) - (w7.toInt)).toNat ∧ tp_T Ω κ τ ν ρ f9 ∧ tp_F τ [21] f f9 ∧ (0 ≤ w7.toInt ∧ w7.toInt ≤ 1000) ∧ ((w7.toInt) ≤ (u.toInt)) ∧ va_P (dC, dI) vwCl (va_pl L f9) H ∧ va_D A (va_pl L f9) ∧ va_S A s.heap H locs ∧ lv_has ls 6 [(5, .int w7), (0, .ref h0), (1, .int v), (2, .int u), (3, .long x)]) ?_ _ _ _ _ ⟨f, v, rfl, hT, hR, (by omega), (by omega), hP, hD, hS, lv_sub hl [0, 1, 2, 3, 4] rfl⟩
  intro n0 H locs ls hI ih10
  refine Exists.elim hI (fun f9 hE90 => Exists.elim hE90 (fun w7 hE91 => tn_9 hE91 (fun hn11 hT hR rw7 k8 hP hD hS hl => ?_)))
  clear hE91 hE90 hI
  refine lv_iload hx hb dJ7_fill_bad5a_10 (lv_at hl 0 rfl) ?_
  refine lv_iload_n hx hb dJ7_fill_bad5a_12 rfl (lv_at hl 3 rfl) ?_
  refine lv_icmp_ge (tgt := 27) hx hb dJ7_fill_bad5a_13 (by decide) (fun c12 => ?_) (fun c12 => ?_)
  · have ic12 : w7.toInt ≥ u.toInt := zi_ge rfl rfl c12
    exact W.vret hx hb hr (fun t ht hW => ⟨⟨f9, rfl, ⟨hT, hR, trivial⟩, by rw [ht]; exact hP, va_K.moved hW.alike hK, hD⟩, hS.F ht⟩) hS.2.2 dJ7_fill_bad5a_27
  · have ic12 : w7.toInt < u.toInt := zi_gef rfl rfl c12
    refine lv_aload_n hx hb dJ7_fill_bad5a_16 rfl (lv_at hl 1 rfl) ?_
    refine lv_iload hx hb dJ7_fill_bad5a_17 (lv_at hl 0 rfl) ?_
    refine lv_lload_n hx hb dJ7_fill_bad5a_19 rfl (lv_at hl 4 rfl) ?_
    refine tpk_21 hT ht_h0 rfl (fun g14 hf_o13 => ?_)
    refine tpk_pos (tp_in hG ht_h0 (by decide)) hf_o13 (fun q15 eq15 => ?_)
    refine va_last hx hb hK hP hD hS q15 1 eq15 rfl (vp_in_iff.mpr ⟨by omega, by omega⟩) dJ7_fill_bad5a_20 (tp_k (.inl (κ 1, (ν h0), .inr (.inl (vp_updL g14 w7.toNatClampNeg x)))) hD (tp_in hG ht_h0 (by decide)) eq15 (fun f16 H locs hP hD hS g18 k17 => ?_))
    have hT := hT.up ht_h0 g18 k17 (tp_o21 rfl)
    have hR := hR.up ht_h0 (by decide) k17
    generalize (vp_updL g14 w7.toNatClampNeg x) = g19 at g18
    obtain ⟨z20, ez20⟩ : ∃ y : Int32, y = w7 + 1 := ⟨_, rfl⟩
    refine lv_iinc (v := z20) (lv' := [(5, .int z20), (0, .ref h0), (1, .int v), (2, .int u), (3, .long x)]) hx hb dJ7_fill_bad5a_21 hl (k := 0) rfl (by rw [ez20]; rfl) (by decide) rfl (fun ls hl => ?_)
    have iz20 : z20.toInt = w7.toInt + 1 := zi_add ez20 rfl rfl (by omega) (by omega)
    refine lv_goto (tgt := 10) hx hb dJ7_fill_bad5a_24 (by decide) ?_
    exact ih10 _ _ _ _ (by rw [hn11]; omega) ⟨f16, z20, rfl, hT, hR, (by omega), (by omega), hP, hD, hS, lv_sub hl [0, 1, 2, 3, 4] rfl⟩
set_option maxHeartbeats 4000000 in
set_option maxRecDepth 100000 in
theorem t_X4_addRow (l : Launch) (dC : Nat → ClassId) (dI : Nat → Nat → Nat) (sz : Nat) (Ω : Nat → Nat → (Nat → Nat) → va_E → Prop) (κ : Nat → ClassId) (τ ν : Nat → Nat) (ρ : Nat → Nat → Nat) (L : List Nat) (f : Nat → va_E) (hG : tp_G τ ν ρ L) (hT : tp_T Ω κ τ ν ρ f) (h0 : Nat) (ht_h0 : τ h0 = 5) (h0_x0 : Int32) (h0_x2 : Int32) (hf_h0 : f h0 = .inr (4, [.int h0_x0, .ref (ρ h0 1), .int h0_x2])) : Met l yX4_addRow wqX4_addRow ({ frames := 4, cells := 0, slots := 0, locals := 1200 }) (va_Pc [.ref h0] (pz_B dC dI (tp_K κ) (va_pl L f) sz)) (va_Qi (fun (r : Int32) (f1 : Nat → va_E) => tp_T Ω κ τ ν ρ f1 ∧ tp_F τ [5, 21] f f1 ∧ True ∧ tp_X τ ρ (fun n => n = ρ h0 30) f f1 ∧ ((((h0_x2.toInt = (ρ h0 11 : Int)) → r.toInt = -1) ∧ (¬ (h0_x2.toInt = (ρ h0 11 : Int)) → r.toInt = h0_x2.toInt))) ∧ ((((h0_x2.toInt = (ρ h0 11 : Int)) → (tp_fld (f1 h0) 2) = h0_x2.toInt) ∧ (¬ (h0_x2.toInt = (ρ h0 11 : Int)) → (tp_fld (f1 h0) 2) = h0_x2.toInt + 1)))) (fun (f1 : Nat → va_E) (t : State) => pz_E dC dI (tp_K κ) (va_A (va_pl L f) sz) (va_pl L f1) t) (va_A (va_pl L f) sz)) 0 0 (va_A (va_pl L f) sz) := by
  refine Met.ofW (cc := cX4_addRow) (maxL := 2) (ret := some .int) (by decide) rfl ?_
  intro p e s m args below meth c s₁ B hml hv
  obtain ⟨rfl, hsz, hP, hK, hD0, hN⟩ := hv
  have hx := B.exec
  have hb := B.bytes
  have hr := B.returns
  have hts := fun (w : Cond) (h : w ∈ WALL) => atoms_spec (ws := wqX4_addRow) B.pre w (List.mem_cons_of_mem _ h)
  have hown : s.vm.findClass RX4 = some m.cls := findClass_of_methodNamed B.named
  have hlocks := B.notSynchronized
  subst hsz
  have hD := hD0.self (sz := s.heap.size)
  generalize hAe : va_A (va_pl L f) s.heap.size = A at hD ⊢
  have hA : ∀ q : Nat, s.heap.size ≤ q → A q := fun q h => by rw [← hAe]; exact Or.inr h
  have hS : va_S A s.heap s.heap [] := va_S.rf
  have hR : tp_F τ [5, 21] f f := tp_F.rf
  have hX : tp_X τ ρ (fun n => n = ρ h0 30) f f := tp_X.rf
  have hl := lv_entry ([.ref h0]) (n := 2) (Nat.le_of_ble_eq_true rfl)
  rw [lg_entry_eq]
  generalize (lg_sl ([.ref h0]) ++ List.replicate (2 - (lg_sl ([.ref h0])).length) Slot.unset).toArray = ls at hl ⊢
  have hl : lv_has ls 2 [(0, .ref h0)] := hl
  refine tpk_5 hT ht_h0 (fun h0z_x0 h0z_x2 hfz_h0 rzh0_0 rzh0_1 => ?_)
  obtain ⟨rfl, rfl⟩ := tp_same5 hf_h0 hfz_h0
  refine lv_aload_n hx hb dX4_addRow_0 rfl (lv_at hl 0 rfl) ?_
  refine tpk_pos (tp_in hG ht_h0 (by decide)) hf_h0 (fun q1 eq1 => ?_)
  have rzh0_1 := tp_hu rzh0_1
  refine va_get (D := (dC, dI)) (ci := 4) (v := .int h0_x2) (C := RX4) (T := TX4) (N := 3) hx hb hts hfX4 hown hK hP q1 eq1 rfl 2 (by decide) (hts (.fieldLink RX4 25 "ColdShips$Rows" "size" "I") wa_517) (fun _ h9 => h9) rfl dX4_addRow_1 ?_
  refine lv_aload_n hx hb dX4_addRow_4 rfl (lv_at hl 0 rfl) ?_
  have rzh0_0 := tp_hu rzh0_0
  refine va_get (D := (dC, dI)) (ci := 4) (v := .int h0_x0) (C := RX4) (T := TX4) (N := 3) hx hb hts hfX4 hown hK hP q1 eq1 rfl 0 (by decide) (hts (.fieldLink RX4 15 "ColdShips$Rows" "width" "I") wa_81) (fun _ h9 => h9) rfl dX4_addRow_5 ?_
  refine lv_imul hx hb dX4_addRow_8 ?_
  refine lv_topi (fun z2 ez2 => ?_)
  refine tgk_5 hG ht_h0 (fun y3 y3n y4a y4b y4c => ?_)
  have jz2h0 := tp_rowM y3n y4b y4c (r := h0_x2.toInt) (by omega) (by omega)
  have iz2 : z2.toInt = h0_x2.toInt * (ρ h0 10 : Int) := zi_mul ez2 rfl rzh0_0 (by omega) (by omega)
  refine lv_istore_n (lv' := [(1, .int z2), (0, .ref h0)]) hx hb dX4_addRow_9 rfl hl (by decide) rfl (fun ls hl => ?_)
  refine lv_iload_n hx hb dX4_addRow_10 rfl (lv_at hl 0 rfl) ?_
  refine lv_aload_n hx hb dX4_addRow_11 rfl (lv_at hl 1 rfl) ?_
  refine va_get (D := (dC, dI)) (ci := 4) (v := .int h0_x0) (C := RX4) (T := TX4) (N := 3) hx hb hts hfX4 hown hK hP q1 eq1 rfl 0 (by decide) (hts (.fieldLink RX4 15 "ColdShips$Rows" "width" "I") wa_81) (fun _ h9 => h9) rfl dX4_addRow_12 ?_
  refine lv_iadd hx hb dX4_addRow_15 ?_
  refine lv_topi (fun z5 ez5 => ?_)
  have iz5 : z5.toInt = z2.toInt + h0_x0.toInt := zi_add ez5 rfl rfl (by omega) (by omega)
  refine lv_aload_n hx hb dX4_addRow_16 rfl (lv_at hl 1 rfl) ?_
  refine va_get (D := (dC, dI)) (ci := 4) (v := .ref (ρ h0 1)) (C := RX4) (T := TX4) (N := 3) hx hb hts hfX4 hown hK hP q1 eq1 rfl 1 (by decide) (hts (.fieldLink RX4 21 "ColdShips$Rows" "cells" "[J") wa_83) (fun _ h9 => h9) rfl dX4_addRow_17 ?_
  refine tpk_21 hT y3 rfl (fun g7 hf_o6 => ?_)
  refine tpk_pos (tp_in hG y3 (by decide)) hf_o6 (fun q8 eq8 => ?_)
  obtain ⟨z9, ez9⟩ : ∃ y : Int32, y = Int32.ofNat (ν (ρ h0 1)) := ⟨_, rfl⟩
  have iz9 : z9.toInt = ((ν (ρ h0 1)) : Int) := zi_ofNat ez9 (by omega)
  refine va_alen hx hb hK hP q8 1 eq8 rfl ez9.symm dX4_addRow_20 ?_
  refine lv_icmp_le (tgt := 26) hx hb dX4_addRow_21 (by decide) (fun c10 => ?_) (fun c10 => ?_)
  · have ic10 : z5.toInt ≤ z9.toInt := zi_le rfl rfl c10
    refine lv_aload_n hx hb dX4_addRow_26 rfl (lv_at hl 1 rfl) ?_
    refine va_get (D := (dC, dI)) (ci := 4) (v := .ref (ρ h0 1)) (C := RX4) (T := TX4) (N := 3) hx hb hts hfX4 hown hK hP q1 eq1 rfl 1 (by decide) (hts (.fieldLink RX4 21 "ColdShips$Rows" "cells" "[J") wa_83) (fun _ h9 => h9) rfl dX4_addRow_27 ?_
    refine lv_iload_n hx hb dX4_addRow_30 rfl (lv_at hl 0 rfl) ?_
    refine lv_iload_n hx hb dX4_addRow_31 rfl (lv_at hl 0 rfl) ?_
    refine lv_aload_n hx hb dX4_addRow_32 rfl (lv_at hl 1 rfl) ?_
    refine va_get (D := (dC, dI)) (ci := 4) (v := .int h0_x0) (C := RX4) (T := TX4) (N := 3) hx hb hts hfX4 hown hK hP q1 eq1 rfl 0 (by decide) (hts (.fieldLink RX4 15 "ColdShips$Rows" "width" "I") wa_81) (fun _ h9 => h9) rfl dX4_addRow_33 ?_
    refine lv_iadd hx hb dX4_addRow_36 ?_
    refine lv_topi (fun z11 ez11 => ?_)
    have iz11 : z11.toInt = z2.toInt + h0_x0.toInt := zi_add ez11 rfl rfl (by omega) (by omega)
    refine lv_lconst (v := 0) hx hb dX4_addRow_37 (by decide) ?_
    have hFc := tp_fr hD hS hA
    refine va_callv (va_runS (As := [.ref (ρ h0 1), .int z2, .int z11, .long 0]) (rest := []) ⟨hx, hb, hml, hown, hts⟩ (t_J7_fill_bad5a l dC dI _ Ω κ τ ν ρ L f hG hT (ρ h0 1) z2 z11 (0) y3 (by omega)) (va_cwS 4 hts gX4_addRow_J7_fill_bad5a rfl rfl rfl pd_J7_fill_bad5a ⟨Nat.le_of_ble_eq_true rfl, Nat.le_of_ble_eq_true rfl⟩) ⟨pz_blind, pz_pre hP hK hD hN⟩ rfl rfl hl.1 rfl (lv_room (Nat.le_of_ble_eq_true rfl)) dX4_addRow_38 ⟨Nat.le_of_ble_eq_true rfl, Nat.le_of_ble_eq_true rfl⟩) hS (fun q _ h => hFc q h) hFc (fun f14 t H1 locs ht hvm hw13 hB hz1 hk1 hS => ?_)
    refine tn_3 hw13 (fun hT hF15 hw13p => ?_); clear hw13
    have hR := hR.then hF15 (by decide)
    have hX := hX.fr hF15 (by decide)
    have hP := hB.1; rw [ht] at hP; have hD := tp_ad f14 hD; clear hB hFc hz1 hk1; subst ht; generalize t.heap = H at hP hS ⊢
    refine lv_aload_n hx hb dX4_addRow_41 rfl (lv_at hl 1 rfl) ?_
    refine lv_dup hx hb dX4_addRow_42 rfl ?_
    have hf_16 : f14 h0 = .inr (4, [.int h0_x0, .ref (ρ h0 1), .int h0_x2]) := (hF15 _ (by rw [ht_h0]; decide)).trans hf_h0
    refine tpk_pos (tp_in hG ht_h0 (by decide)) hf_16 (fun q17 eq17 => ?_)
    refine va_get (D := (dC, dI)) (ci := 4) (v := .int h0_x2) (C := RX4) (T := TX4) (N := 3) hx hb hts hfX4 hown hK hP q17 eq17 rfl 2 (by decide) (hts (.fieldLink RX4 25 "ColdShips$Rows" "size" "I") wa_517) (fun _ h9 => h9) rfl dX4_addRow_43 ?_
    refine lv_dup_x1 hx hb dX4_addRow_46 rfl rfl ?_
    refine lv_iconst (v := 1) hx hb dX4_addRow_47 (by decide) ?_
    refine lv_iadd hx hb dX4_addRow_48 ?_
    refine lv_topi (fun z18 ez18 => ?_)
    have iz18 : z18.toInt = h0_x2.toInt + 1 := zi_add ez18 rfl rfl (by omega) (by omega)
    refine va_put (D := (dC, dI)) (ci := 4) (v := .int z18) (ty := .int) (C := RX4) (T := TX4) (N := 3) hx hb hts hfX4 tyX4 tyX4_ok nmX4 hown hK hP hD hS q17 eq17 rfl 2 (by decide) (hts (.fieldLink RX4 25 "ColdShips$Rows" "size" "I") wa_517) (fun _ h9 => h9) rfl (tyX4_ok 2 (by decide)) rfl rfl (Nat.le_of_ble_eq_true rfl) dX4_addRow_49 (tp_k (.inr (4, [.int h0_x0, .ref (ρ h0 1), .int z18])) hD (tp_in hG ht_h0 (by decide)) eq17 (fun f19 H locs hP hD hS g21 k20 => ?_))
    have hT := hT.up ht_h0 g21 k20 ⟨_, _, rfl, rzh0_0, (by have := tp_rowA y3n y4a (r := h0_x2.toInt) (by omega); omega)⟩
    have hR := hR.up ht_h0 (by decide) k20
    have hX := hX.up k20 (Or.inr (by show (ρ h0 30) = ρ h0 30; omega))
    have hz9 : h0_x2.toInt + 1 ≤ (ρ h0 11 : Int) := tp_rowA y3n y4a (r := h0_x2.toInt) (by omega)
    have tv22 : tp_fld (f19 h0) 2 = z18.toInt := by rw [g21]; rfl
    exact W.iret (v := h0_x2) hx hb hr (fun t ht hW => ⟨⟨h0_x2, f19, rfl, ⟨hT, hR, trivial, ⟨hX, (by rw [tv22]; exact ⟨⟨fun q0 => by omega, fun q0 => (by omega)⟩, ⟨fun q0 => by omega, fun q0 => (by omega)⟩⟩)⟩⟩, by rw [ht]; exact hP, va_K.moved hW.alike hK, hD⟩, hS.F ht⟩) hS.2.2 dX4_addRow_52
  · have ic10 : z5.toInt > z9.toInt := zi_lef rfl rfl c10
    refine lv_iconst (v := (-1)) hx hb dX4_addRow_24 (by decide) ?_
    have hz9 : (ρ h0 11 : Int) ≤ h0_x2.toInt := tp_rowD y3n y4a (r := h0_x2.toInt) (by omega)
    have tv23 : tp_fld (f h0) 2 = h0_x2.toInt := by rw [hf_h0]; rfl
    exact W.iret (v := (-1)) hx hb hr (fun t ht hW => ⟨⟨(-1), f, rfl, ⟨hT, hR, trivial, ⟨hX, (by rw [tv23]; exact ⟨⟨fun q0 => by have : ((-1) : Int32).toInt = (-1) := rfl; omega, fun q0 => (by have : ((-1) : Int32).toInt = (-1) := rfl; omega)⟩, ⟨fun q0 => by have : ((-1) : Int32).toInt = (-1) := rfl; omega, fun q0 => (by have : ((-1) : Int32).toInt = (-1) := rfl; omega)⟩⟩)⟩⟩, by rw [ht]; exact hP, va_K.moved hW.alike hK, hD⟩, hS.F ht⟩) hS.2.2 dX4_addRow_25
set_option maxHeartbeats 4000000 in
set_option maxRecDepth 100000 in
theorem t_X4_copyFrom (l : Launch) (dC : Nat → ClassId) (dI : Nat → Nat → Nat) (sz : Nat) (Ω : Nat → Nat → (Nat → Nat) → va_E → Prop) (κ : Nat → ClassId) (τ ν : Nat → Nat) (ρ : Nat → Nat → Nat) (L : List Nat) (f : Nat → va_E) (hG : tp_G τ ν ρ L) (hT : tp_T Ω κ τ ν ρ f) (h0 : Nat) (h1 : Nat) (ht_h0 : τ h0 = 5) (ht_h1 : τ h1 = 5) (h0_x0 : Int32) (h0_x2 : Int32) (hf_h0 : f h0 = .inr (4, [.int h0_x0, .ref (ρ h0 1), .int h0_x2])) (h1_x0 : Int32) (h1_x2 : Int32) (hf_h1 : f h1 = .inr (4, [.int h1_x0, .ref (ρ h1 1), .int h1_x2])) (hcw : ρ h1 10 = ρ h0 10 ∧ ρ h1 11 = ρ h0 11) : Met l yX4_copyFrom wqX4_copyFrom ({ frames := 2, cells := 0, slots := 0, locals := 400 }) (va_Pc [.ref h0, .ref h1] (pz_B dC dI (tp_K κ) (va_pl L f) sz)) (va_Qv (fun (f1 : Nat → va_E) => tp_T Ω κ τ ν ρ f1 ∧ tp_F τ [5, 21] f f1 ∧ tp_X τ ρ (fun n => n = ρ h0 30) f f1 ∧ ((tp_fld (f1 h0) 2) = h1_x2.toInt)) (fun (f1 : Nat → va_E) (t : State) => pz_E dC dI (tp_K κ) (va_A (va_pl L f) sz) (va_pl L f1) t) (va_A (va_pl L f) sz)) 0 0 (va_A (va_pl L f) sz) := by
  refine Met.ofW (cc := cX4_copyFrom) (maxL := 3) (ret := none) (by decide) rfl ?_
  intro p e s m args below meth c s₁ B hml hv
  obtain ⟨rfl, hsz, hP, hK, hD0, hN⟩ := hv
  have hx := B.exec
  have hb := B.bytes
  have hr := B.returns
  have hts := fun (w : Cond) (h : w ∈ WALL) => atoms_spec (ws := wqX4_copyFrom) B.pre w (List.mem_cons_of_mem _ h)
  have hown : s.vm.findClass RX4 = some m.cls := findClass_of_methodNamed B.named
  have hlocks := B.notSynchronized
  subst hsz
  have hD := hD0.self (sz := s.heap.size)
  generalize hAe : va_A (va_pl L f) s.heap.size = A at hD ⊢
  have hA : ∀ q : Nat, s.heap.size ≤ q → A q := fun q h => by rw [← hAe]; exact Or.inr h
  have hS : va_S A s.heap s.heap [] := va_S.rf
  have hR : tp_F τ [5, 21] f f := tp_F.rf
  have hX : tp_X τ ρ (fun n => n = ρ h0 30) f f := tp_X.rf
  have hl := lv_entry ([.ref h0, .ref h1]) (n := 3) (Nat.le_of_ble_eq_true rfl)
  rw [lg_entry_eq]
  generalize (lg_sl ([.ref h0, .ref h1]) ++ List.replicate (3 - (lg_sl ([.ref h0, .ref h1])).length) Slot.unset).toArray = ls at hl ⊢
  have hl : lv_has ls 3 [(0, .ref h0), (1, .ref h1)] := hl
  refine tpk_5 hT ht_h0 (fun h0z_x0 h0z_x2 hfz_h0 rzh0_0 rzh0_1 => ?_)
  obtain ⟨rfl, rfl⟩ := tp_same5 hf_h0 hfz_h0
  refine tpk_5 hT ht_h1 (fun h1z_x0 h1z_x2 hfz_h1 rzh1_0 rzh1_1 => ?_)
  obtain ⟨rfl, rfl⟩ := tp_same5 hf_h1 hfz_h1
  refine tgk_5 hG ht_h0 (fun y1 y1n y2a y2b y2c => ?_)
  refine tgk_5 hG ht_h1 (fun y3 y3n y4a y4b y4c => ?_)
  have hnn : ν (ρ h1 1) = ν (ρ h0 1) := by rw [y3n, y1n, hcw.1, hcw.2]
  refine lv_aload_n hx hb dX4_copyFrom_0 rfl (lv_at hl 1 rfl) ?_
  refine tpk_pos (tp_in hG ht_h1 (by decide)) hf_h1 (fun q5 eq5 => ?_)
  have rzh1_1 := tp_hu rzh1_1
  refine va_get (D := (dC, dI)) (ci := 4) (v := .int h1_x2) (C := RX4) (T := TX4) (N := 3) hx hb hts hfX4 hown hK hP q5 eq5 rfl 2 (by decide) (hts (.fieldLink RX4 25 "ColdShips$Rows" "size" "I") wa_517) (fun _ h9 => h9) rfl dX4_copyFrom_1 ?_
  refine lv_aload_n hx hb dX4_copyFrom_4 rfl (lv_at hl 1 rfl) ?_
  have rzh1_0 := tp_hu rzh1_0
  refine va_get (D := (dC, dI)) (ci := 4) (v := .int h1_x0) (C := RX4) (T := TX4) (N := 3) hx hb hts hfX4 hown hK hP q5 eq5 rfl 0 (by decide) (hts (.fieldLink RX4 15 "ColdShips$Rows" "width" "I") wa_81) (fun _ h9 => h9) rfl dX4_copyFrom_5 ?_
  refine lv_imul hx hb dX4_copyFrom_8 ?_
  refine lv_topi (fun z6 ez6 => ?_)
  have jz6h1 := tp_rowM y3n y4b y4c (r := h1_x2.toInt) (by omega) (by omega)
  have jz6h0 := tp_rowM y1n y2b y2c (r := 0) (by omega) (by omega)
  have iz6 : z6.toInt = h1_x2.toInt * (ρ h1 10 : Int) := zi_mul ez6 rfl rzh1_0 (by omega) (by omega)
  refine lv_istore_n (lv' := [(2, .int z6), (0, .ref h0), (1, .ref h1)]) hx hb dX4_copyFrom_9 rfl hl (by decide) rfl (fun ls hl => ?_)
  refine lv_aload_n hx hb dX4_copyFrom_10 rfl (lv_at hl 2 rfl) ?_
  refine va_get (D := (dC, dI)) (ci := 4) (v := .int h1_x0) (C := RX4) (T := TX4) (N := 3) hx hb hts hfX4 hown hK hP q5 eq5 rfl 0 (by decide) (hts (.fieldLink RX4 15 "ColdShips$Rows" "width" "I") wa_81) (fun _ h9 => h9) rfl dX4_copyFrom_11 ?_
  refine lv_aload_n hx hb dX4_copyFrom_14 rfl (lv_at hl 1 rfl) ?_
  refine tpk_pos (tp_in hG ht_h0 (by decide)) hf_h0 (fun q7 eq7 => ?_)
  have rzh0_0 := tp_hu rzh0_0
  refine va_get (D := (dC, dI)) (ci := 4) (v := .int h0_x0) (C := RX4) (T := TX4) (N := 3) hx hb hts hfX4 hown hK hP q7 eq7 rfl 0 (by decide) (hts (.fieldLink RX4 15 "ColdShips$Rows" "width" "I") wa_81) (fun _ h9 => h9) rfl dX4_copyFrom_15 ?_
  refine lv_icmp_ne (tgt := 52) hx hb dX4_copyFrom_18 (by decide) (fun c8 => ?_) (fun c8 => ?_)
  · have ic8 : h1_x0.toInt ≠ h0_x0.toInt := zi_ne rfl rfl c8
    have rzh0_1 := tp_hu rzh0_1
    have tv9 : tp_fld (f h0) 2 = h0_x2.toInt := by rw [hf_h0]; rfl
    exact W.vret hx hb hr (fun t ht hW => ⟨⟨f, rfl, ⟨hT, hR, ⟨hX, (by first | (rw [tv9]; done) | (rw [tv9]; exact (by omega)))⟩⟩, by rw [ht]; exact hP, va_K.moved hW.alike hK, hD⟩, hS.F ht⟩) hS.2.2 dX4_copyFrom_52
  · have ic8 : h1_x0.toInt = h0_x0.toInt := zi_nef rfl rfl c8
    refine lv_iload_n hx hb dX4_copyFrom_21 rfl (lv_at hl 0 rfl) ?_
    refine lv_aload_n hx hb dX4_copyFrom_22 rfl (lv_at hl 1 rfl) ?_
    refine va_get (D := (dC, dI)) (ci := 4) (v := .ref (ρ h0 1)) (C := RX4) (T := TX4) (N := 3) hx hb hts hfX4 hown hK hP q7 eq7 rfl 1 (by decide) (hts (.fieldLink RX4 21 "ColdShips$Rows" "cells" "[J") wa_83) (fun _ h9 => h9) rfl dX4_copyFrom_23 ?_
    refine tpk_21 hT y1 rfl (fun g11 hf_o10 => ?_)
    refine tpk_pos (tp_in hG y1 (by decide)) hf_o10 (fun q12 eq12 => ?_)
    obtain ⟨z13, ez13⟩ : ∃ y : Int32, y = Int32.ofNat (ν (ρ h0 1)) := ⟨_, rfl⟩
    have iz13 : z13.toInt = ((ν (ρ h0 1)) : Int) := zi_ofNat ez13 (by omega)
    refine va_alen hx hb hK hP q12 1 eq12 rfl ez13.symm dX4_copyFrom_26 ?_
    refine lv_icmp_gt (tgt := 52) hx hb dX4_copyFrom_27 (by decide) (fun c14 => ?_) (fun c14 => ?_)
    · have ic14 : z6.toInt > z13.toInt := zi_gt rfl rfl c14
      have rzh0_1 := tp_hu rzh0_1
      have tv15 : tp_fld (f h0) 2 = h0_x2.toInt := by rw [hf_h0]; rfl
      exact W.vret hx hb hr (fun t ht hW => ⟨⟨f, rfl, ⟨hT, hR, ⟨hX, (by first | (rw [tv15]; done) | (rw [tv15]; exact (by omega)))⟩⟩, by rw [ht]; exact hP, va_K.moved hW.alike hK, hD⟩, hS.F ht⟩) hS.2.2 dX4_copyFrom_52
    · have ic14 : z6.toInt ≤ z13.toInt := zi_gtf rfl rfl c14
      refine lv_aload_n hx hb dX4_copyFrom_30 rfl (lv_at hl 2 rfl) ?_
      refine va_get (D := (dC, dI)) (ci := 4) (v := .ref (ρ h1 1)) (C := RX4) (T := TX4) (N := 3) hx hb hts hfX4 hown hK hP q5 eq5 rfl 1 (by decide) (hts (.fieldLink RX4 21 "ColdShips$Rows" "cells" "[J") wa_83) (fun _ h9 => h9) rfl dX4_copyFrom_31 ?_
      refine lv_iconst (v := 0) hx hb dX4_copyFrom_34 (by decide) ?_
      refine lv_aload_n hx hb dX4_copyFrom_35 rfl (lv_at hl 1 rfl) ?_
      refine va_get (D := (dC, dI)) (ci := 4) (v := .ref (ρ h0 1)) (C := RX4) (T := TX4) (N := 3) hx hb hts hfX4 hown hK hP q7 eq7 rfl 1 (by decide) (hts (.fieldLink RX4 21 "ColdShips$Rows" "cells" "[J") wa_83) (fun _ h9 => h9) rfl dX4_copyFrom_36 ?_
      refine lv_iconst (v := 0) hx hb dX4_copyFrom_39 (by decide) ?_
      refine lv_iload_n hx hb dX4_copyFrom_40 rfl (lv_at hl 0 rfl) ?_
      refine tpk_21 hT y3 rfl (fun g17 hf_o16 => ?_)
      refine tpk_pos (tp_in hG y3 (by decide)) hf_o16 (fun q18 eq18 => ?_)
      refine va_copyl hx hb (by rw [hml]; exact hl.1.symm) hown (hts (.methodLink RX4 42 arraycopyName) wa_1521) (hts (.native arraycopyName) wa_465) (hts (.static arraycopyName) wa_466) (hts (.initialized "java/lang/System") wa_467) hK hP hD hS q18 q12 1 1 eq18 eq12 rfl rfl rfl (by decide) (by decide) (zi_nn (by omega)) (zi_cp (show (0 : Int32).toInt = 0 from rfl) (rfl : z6.toInt = _) (by omega)) (zi_cp (show (0 : Int32).toInt = 0 from rfl) (rfl : z6.toInt = _) (by omega)) (fun _ _ => rfl) (Nat.le_of_ble_eq_true rfl) (Nat.le_of_ble_eq_true rfl) dX4_copyFrom_41 (tp_k (.inl (κ 1, (ν (ρ h0 1)), .inr (.inl (va_cpy g17 g11 (0 : Int32).toNatClampNeg (0 : Int32).toNatClampNeg z6.toNatClampNeg)))) hD (tp_in hG y1 (by decide)) eq12 (fun f19 H locs hP hD hS g21 k20 => ?_))
      have hT := hT.up y1 g21 k20 (tp_o21 rfl)
      have hR := hR.up y1 (by decide) k20
      have hX := hX.up k20 (Or.inl (by rw [tp_iu y1]; decide))
      generalize (va_cpy g17 g11 (0 : Int32).toNatClampNeg (0 : Int32).toNatClampNeg z6.toNatClampNeg) = g22 at g21
      refine lv_aload_n hx hb dX4_copyFrom_44 rfl (lv_at hl 1 rfl) ?_
      refine lv_aload_n hx hb dX4_copyFrom_45 rfl (lv_at hl 2 rfl) ?_
      have hf_23 : f19 h1 = .inr (4, [.int h1_x0, .ref (ρ h1 1), .int h1_x2]) := (k20 _ (tp_ne ht_h1 y1 (by decide))).trans hf_h1
      refine tpk_pos (tp_in hG ht_h1 (by decide)) hf_23 (fun q24 eq24 => ?_)
      refine va_get (D := (dC, dI)) (ci := 4) (v := .int h1_x2) (C := RX4) (T := TX4) (N := 3) hx hb hts hfX4 hown hK hP q24 eq24 rfl 2 (by decide) (hts (.fieldLink RX4 25 "ColdShips$Rows" "size" "I") wa_517) (fun _ h9 => h9) rfl dX4_copyFrom_46 ?_
      have hf_25 : f19 h0 = .inr (4, [.int h0_x0, .ref (ρ h0 1), .int h0_x2]) := (k20 _ (tp_ne ht_h0 y1 (by decide))).trans hf_h0
      refine tpk_pos (tp_in hG ht_h0 (by decide)) hf_25 (fun q26 eq26 => ?_)
      refine va_put (D := (dC, dI)) (ci := 4) (v := .int h1_x2) (ty := .int) (C := RX4) (T := TX4) (N := 3) hx hb hts hfX4 tyX4 tyX4_ok nmX4 hown hK hP hD hS q26 eq26 rfl 2 (by decide) (hts (.fieldLink RX4 25 "ColdShips$Rows" "size" "I") wa_517) (fun _ h9 => h9) rfl (tyX4_ok 2 (by decide)) rfl rfl (Nat.le_of_ble_eq_true rfl) dX4_copyFrom_49 (tp_k (.inr (4, [.int h0_x0, .ref (ρ h0 1), .int h1_x2])) hD (tp_in hG ht_h0 (by decide)) eq26 (fun f27 H locs hP hD hS g29 k28 => ?_))
      have hT := hT.up ht_h0 g29 k28 ⟨_, _, rfl, rzh0_0, (by have q9 : ρ h1 10 = ρ h0 10 := (by omega); have q8 : h1_x2.toInt * (ρ h1 10 : Int) ≤ (ν (ρ h0 1) : Int) := (by omega); rw [q9] at q8; have := tp_rowC y1n y2a q8; omega)⟩
      have hR := hR.up ht_h0 (by decide) k28
      have hX := hX.up k28 (Or.inr (by show (ρ h0 30) = ρ h0 30; omega))
      have tv30 : tp_fld (f27 h0) 2 = h1_x2.toInt := by rw [g29]; rfl
      exact W.vret hx hb hr (fun t ht hW => ⟨⟨f27, rfl, ⟨hT, hR, ⟨hX, (by first | (rw [tv30]; done) | (rw [tv30]; exact (by omega)))⟩⟩, by rw [ht]; exact hP, va_K.moved hW.alike hK, hD⟩, hS.F ht⟩) hS.2.2 dX4_copyFrom_52
set_option maxHeartbeats 4000000 in
set_option maxRecDepth 100000 in
theorem t_X11_isOrder (l : Launch) (dC : Nat → ClassId) (dI : Nat → Nat → Nat) (sz : Nat) (v : Int32) (u : Int32) (Z_v : Int) (Z_u : Int) (hZ_v : v.toInt = Z_v) (hZ_u : u.toInt = Z_u) : Met l yX11_isOrder wqX11_isOrder ({ frames := 4, cells := 0, slots := 0, locals := 1200 }) (va_Pc [.int v, .int u] (pz_B dC dI [] [] sz)) (vp_Si (fun r => (0 ≤ r.toInt ∧ r.toInt ≤ 1) ∧ True)) 0 0 (fun _ => False) := by
  refine Met.ofW (cc := cX11_isOrder) (maxL := 2) (ret := some .boolean) (by decide) rfl ?_
  intro p e s m args below meth c s₁ B hml hv
  obtain ⟨rfl, hsz, hP, hK, hD0, hN⟩ := hv
  have hx := B.exec
  have hb := B.bytes
  have hr := B.returns
  have hts := fun (w : Cond) (h : w ∈ WALL) => atoms_spec (ws := wqX11_isOrder) B.pre w (List.mem_cons_of_mem _ h)
  have hown : s.vm.findClass RX11 = some m.cls := findClass_of_methodNamed B.named
  have hlocks := B.notSynchronized
  subst hsz
  have hD := hD0
  have hS : va_S (fun _ => True) s.heap s.heap [] := va_S.rf
  have hl := lv_entry ([.int v, .int u]) (n := 2) (Nat.le_of_ble_eq_true rfl)
  rw [lg_entry_eq]
  generalize (lg_sl ([.int v, .int u]) ++ List.replicate (2 - (lg_sl ([.int v, .int u])).length) Slot.unset).toArray = ls at hl ⊢
  have hl : lv_has ls 2 [(0, .int v), (1, .int u)] := hl
  refine lv_iload_n hx hb dX11_isOrder_0 rfl (lv_at hl 0 rfl) ?_
  rcases zi_sw v 0 3 with h1 | h1
  · refine lv_tableOut (tgt := 47) hx hb dX11_isOrder_1 h1 (by decide) ?_
    refine lv_iconst (v := 0) hx hb dX11_isOrder_47 (by decide) ?_
    exact W.zret (v := 0) hx hb hr rfl (fun t ht hW => ⟨0, rfl, ⟨(by first | decide | omega), trivial⟩, ht⟩) (fun _ h => by cases h) dX11_isOrder_48
  · rcases (show v.toInt = 0 ∨ v.toInt = 1 ∨ v.toInt = 2 ∨ v.toInt = 3 by omega) with h1k | h1k | h1k | h1k
    · refine lv_tableIn (tgt := 32) hx hb dX11_isOrder_1 (by omega) (by omega) (by rw [h1k]; rfl) (by decide) ?_
      refine lv_iconst (v := 1) hx hb dX11_isOrder_32 (by decide) ?_
      exact W.zret (v := 1) hx hb hr rfl (fun t ht hW => ⟨1, rfl, ⟨(by first | decide | omega), trivial⟩, ht⟩) (fun _ h => by cases h) dX11_isOrder_33
    · refine lv_tableIn (tgt := 34) hx hb dX11_isOrder_1 (by omega) (by omega) (by rw [h1k]; rfl) (by decide) ?_
      refine lv_iload_n hx hb dX11_isOrder_34 rfl (lv_at hl 1 rfl) ?_
      refine lv_iconst (v := 1) hx hb dX11_isOrder_35 (by decide) ?_
      refine lv_ldc (own := RX11) (v := 200000) hx hb hown (hts (.constant RX11 76 (200000)) wa_232) dX11_isOrder_36 ?_
      refine pz_calli (va_runS (As := [.int u, .int 1, .int 200000]) (rest := []) ⟨hx, hb, hml, hown, hts⟩ (t_X11_within l dC dI _ u (1) (200000) (Z_u) (1) (200000) hZ_u rfl rfl) (va_cwS 3 hts gX11_isOrder_X11_within rfl rfl rfl pd_X11_within ⟨Nat.le_of_ble_eq_true rfl, Nat.le_of_ble_eq_true rfl⟩) ⟨pz_blind, pz_pre pz_P0 (hK.sub (tys' := []) [] rfl) (pz_D0 (A := fun _ => True)) hN⟩ rfl rfl hl.1 rfl (lv_room (Nat.le_of_ble_eq_true rfl)) dX11_isOrder_38 ⟨Nat.le_of_ble_eq_true rfl, Nat.le_of_ble_eq_true rfl⟩) (fun r2 hw3 => ?_)
      obtain ⟨hw3r, hw3p⟩ := hw3
      exact W.zret (v := r2) hx hb hr (zi_narZ (by omega) (by omega)) (fun t ht hW => ⟨r2, rfl, ⟨(by first | decide | omega), trivial⟩, ht⟩) (fun _ h => by cases h) dX11_isOrder_41
    · refine lv_tableIn (tgt := 34) hx hb dX11_isOrder_1 (by omega) (by omega) (by rw [h1k]; rfl) (by decide) ?_
      refine lv_iload_n hx hb dX11_isOrder_34 rfl (lv_at hl 1 rfl) ?_
      refine lv_iconst (v := 1) hx hb dX11_isOrder_35 (by decide) ?_
      refine lv_ldc (own := RX11) (v := 200000) hx hb hown (hts (.constant RX11 76 (200000)) wa_232) dX11_isOrder_36 ?_
      refine pz_calli (va_runS (As := [.int u, .int 1, .int 200000]) (rest := []) ⟨hx, hb, hml, hown, hts⟩ (t_X11_within l dC dI _ u (1) (200000) (Z_u) (1) (200000) hZ_u rfl rfl) (va_cwS 3 hts gX11_isOrder_X11_within rfl rfl rfl pd_X11_within ⟨Nat.le_of_ble_eq_true rfl, Nat.le_of_ble_eq_true rfl⟩) ⟨pz_blind, pz_pre pz_P0 (hK.sub (tys' := []) [] rfl) (pz_D0 (A := fun _ => True)) hN⟩ rfl rfl hl.1 rfl (lv_room (Nat.le_of_ble_eq_true rfl)) dX11_isOrder_38 ⟨Nat.le_of_ble_eq_true rfl, Nat.le_of_ble_eq_true rfl⟩) (fun r4 hw5 => ?_)
      obtain ⟨hw5r, hw5p⟩ := hw5
      exact W.zret (v := r4) hx hb hr (zi_narZ (by omega) (by omega)) (fun t ht hW => ⟨r4, rfl, ⟨(by first | decide | omega), trivial⟩, ht⟩) (fun _ h => by cases h) dX11_isOrder_41
    · refine lv_tableIn (tgt := 42) hx hb dX11_isOrder_1 (by omega) (by omega) (by rw [h1k]; rfl) (by decide) ?_
      refine lv_iload_n hx hb dX11_isOrder_42 rfl (lv_at hl 1 rfl) ?_
      refine pz_calli (va_runS (As := [.int u]) (rest := []) ⟨hx, hb, hml, hown, hts⟩ (t_X11_isHour l dC dI _ u (Z_u) hZ_u) (va_cwS 1 hts gX11_isOrder_X11_isHour rfl rfl rfl pd_X11_isHour ⟨Nat.le_of_ble_eq_true rfl, Nat.le_of_ble_eq_true rfl⟩) ⟨pz_blind, pz_pre pz_P0 (hK.sub (tys' := []) [] rfl) (pz_D0 (A := fun _ => True)) hN⟩ rfl rfl hl.1 rfl (lv_room (Nat.le_of_ble_eq_true rfl)) dX11_isOrder_43 ⟨Nat.le_of_ble_eq_true rfl, Nat.le_of_ble_eq_true rfl⟩) (fun r6 hw7 => ?_)
      obtain ⟨hw7r, hw7p⟩ := hw7
      exact W.zret (v := r6) hx hb hr (zi_narZ (by omega) (by omega)) (fun t ht hW => ⟨r6, rfl, ⟨(by first | decide | omega), trivial⟩, ht⟩) (fun _ h => by cases h) dX11_isOrder_46
set_option maxHeartbeats 4000000 in
set_option maxRecDepth 100000 in
theorem t_X10_hasTerminal (l : Launch) (dC : Nat → ClassId) (dI : Nat → Nat → Nat) (sz : Nat) (Ω : Nat → Nat → (Nat → Nat) → va_E → Prop) (κ : Nat → ClassId) (τ ν : Nat → Nat) (ρ : Nat → Nat → Nat) (L : List Nat) (f : Nat → va_E) (hG : tp_G τ ν ρ L) (hT : tp_T Ω κ τ ν ρ f) (h0 : Nat) (v : Int32) (ht_h0 : τ h0 = 11) (h0_x0 : Int32) (h0_x1 : Int32) (h0_x2 : Int32) (h0_x3 : Int32) (h0_x4 : Int32) (h0_x5 : Int32) (h0_x6 : Int32) (hf_h0 : f h0 = .inr (10, [.int h0_x0, .int h0_x1, .int h0_x2, .int h0_x3, .int h0_x4, .int h0_x5, .int h0_x6, .ref (ρ h0 7), .ref (ρ h0 8), .ref (ρ h0 9), .ref (ρ h0 10), .ref (ρ h0 11), .ref (ρ h0 12), .ref (ρ h0 13), .ref (ρ h0 14), .ref (ρ h0 15), .ref (ρ h0 16), .ref (ρ h0 17), .ref (ρ h0 18)])) : Met l yX10_hasTerminal wqX10_hasTerminal ({ frames := 2, cells := 0, slots := 0, locals := 400 }) (va_Pc [.ref h0, .int v] (pz_B dC dI (tp_K κ) (va_pl L f) sz)) (vp_Si (fun r => (0 ≤ r.toInt ∧ r.toInt ≤ 1) ∧ tp_cond r (0 ≤ v.toInt ∧ v.toInt < h0_x4.toInt))) 0 0 (fun _ => False) := by
  refine Met.ofW (cc := cX10_hasTerminal) (maxL := 2) (ret := some .boolean) (by decide) rfl ?_
  intro p e s m args below meth c s₁ B hml hv
  obtain ⟨rfl, hsz, hP, hK, hD0, hN⟩ := hv
  have hx := B.exec
  have hb := B.bytes
  have hr := B.returns
  have hts := fun (w : Cond) (h : w ∈ WALL) => atoms_spec (ws := wqX10_hasTerminal) B.pre w (List.mem_cons_of_mem _ h)
  have hown : s.vm.findClass RX10 = some m.cls := findClass_of_methodNamed B.named
  have hlocks := B.notSynchronized
  subst hsz
  have hD := hD0
  have hS : va_S (fun _ => True) s.heap s.heap [] := va_S.rf
  have hl := lv_entry ([.ref h0, .int v]) (n := 2) (Nat.le_of_ble_eq_true rfl)
  rw [lg_entry_eq]
  generalize (lg_sl ([.ref h0, .int v]) ++ List.replicate (2 - (lg_sl ([.ref h0, .int v])).length) Slot.unset).toArray = ls at hl ⊢
  have hl : lv_has ls 2 [(0, .ref h0), (1, .int v)] := hl
  refine tpk_11 hT ht_h0 (fun h0z_x0 h0z_x1 h0z_x2 h0z_x3 h0z_x4 h0z_x5 h0z_x6 hfz_h0 rzh0_0 rzh0_1 rzh0_2 rzh0_3 => ?_)
  obtain ⟨rfl, rfl, rfl, rfl, rfl, rfl, rfl⟩ := tp_same11 hf_h0 hfz_h0
  refine lv_iload_n hx hb dX10_hasTerminal_0 rfl (lv_at hl 1 rfl) ?_
  refine lv_if_lt (tgt := 16) hx hb dX10_hasTerminal_1 (by decide) (fun c1 => ?_) (fun c1 => ?_)
  · have ic1 : v.toInt < 0 := zi_lt rfl rfl c1
    refine lv_iconst (v := 0) hx hb dX10_hasTerminal_16 (by decide) ?_
    exact W.zret (v := 0) hx hb hr rfl (fun t ht hW => ⟨0, rfl, ⟨(by first | decide | omega), (Or.inr ⟨rfl, by omega⟩)⟩, ht⟩) (fun _ h => by cases h) dX10_hasTerminal_17
  · have ic1 : v.toInt ≥ 0 := zi_ltf rfl rfl c1
    refine lv_iload_n hx hb dX10_hasTerminal_4 rfl (lv_at hl 1 rfl) ?_
    refine lv_aload_n hx hb dX10_hasTerminal_5 rfl (lv_at hl 0 rfl) ?_
    refine tpk_pos (tp_in hG ht_h0 (by decide)) hf_h0 (fun q2 eq2 => ?_)
    have rzh0_1 := tp_hu rzh0_1
    refine va_get (D := (dC, dI)) (ci := 10) (v := .int h0_x4) (C := RX10) (T := TX10) (N := 19) hx hb hts hfX10 hown hK hP q2 eq2 rfl 4 (by decide) (hts (.fieldLink RX10 78 "ColdShips$World" "terminalCount" "I") wa_237) (fun _ h9 => h9) rfl dX10_hasTerminal_6 ?_
    refine lv_icmp_ge (tgt := 16) hx hb dX10_hasTerminal_9 (by decide) (fun c3 => ?_) (fun c3 => ?_)
    · have ic3 : v.toInt ≥ h0_x4.toInt := zi_ge rfl rfl c3
      refine lv_iconst (v := 0) hx hb dX10_hasTerminal_16 (by decide) ?_
      exact W.zret (v := 0) hx hb hr rfl (fun t ht hW => ⟨0, rfl, ⟨(by first | decide | omega), (Or.inr ⟨rfl, by omega⟩)⟩, ht⟩) (fun _ h => by cases h) dX10_hasTerminal_17
    · have ic3 : v.toInt < h0_x4.toInt := zi_gef rfl rfl c3
      refine lv_iconst (v := 1) hx hb dX10_hasTerminal_12 (by decide) ?_
      refine lv_goto (tgt := 17) hx hb dX10_hasTerminal_13 (by decide) ?_
      exact W.zret (v := 1) hx hb hr rfl (fun t ht hW => ⟨1, rfl, ⟨(by first | decide | omega), (Or.inl ⟨rfl, by omega⟩)⟩, ht⟩) (fun _ h => by cases h) dX10_hasTerminal_17
set_option maxHeartbeats 4000000 in
set_option maxRecDepth 100000 in
theorem t_X10_hasShip (l : Launch) (dC : Nat → ClassId) (dI : Nat → Nat → Nat) (sz : Nat) (Ω : Nat → Nat → (Nat → Nat) → va_E → Prop) (κ : Nat → ClassId) (τ ν : Nat → Nat) (ρ : Nat → Nat → Nat) (L : List Nat) (f : Nat → va_E) (hG : tp_G τ ν ρ L) (hT : tp_T Ω κ τ ν ρ f) (h0 : Nat) (v : Int32) (ht_h0 : τ h0 = 11) (h0_x0 : Int32) (h0_x1 : Int32) (h0_x2 : Int32) (h0_x3 : Int32) (h0_x4 : Int32) (h0_x5 : Int32) (h0_x6 : Int32) (hf_h0 : f h0 = .inr (10, [.int h0_x0, .int h0_x1, .int h0_x2, .int h0_x3, .int h0_x4, .int h0_x5, .int h0_x6, .ref (ρ h0 7), .ref (ρ h0 8), .ref (ρ h0 9), .ref (ρ h0 10), .ref (ρ h0 11), .ref (ρ h0 12), .ref (ρ h0 13), .ref (ρ h0 14), .ref (ρ h0 15), .ref (ρ h0 16), .ref (ρ h0 17), .ref (ρ h0 18)])) : Met l yX10_hasShip wqX10_hasShip ({ frames := 2, cells := 0, slots := 0, locals := 400 }) (va_Pc [.ref h0, .int v] (pz_B dC dI (tp_K κ) (va_pl L f) sz)) (vp_Si (fun r => (0 ≤ r.toInt ∧ r.toInt ≤ 1) ∧ tp_cond r (0 ≤ v.toInt ∧ v.toInt < h0_x5.toInt))) 0 0 (fun _ => False) := by
  refine Met.ofW (cc := cX10_hasShip) (maxL := 2) (ret := some .boolean) (by decide) rfl ?_
  intro p e s m args below meth c s₁ B hml hv
  obtain ⟨rfl, hsz, hP, hK, hD0, hN⟩ := hv
  have hx := B.exec
  have hb := B.bytes
  have hr := B.returns
  have hts := fun (w : Cond) (h : w ∈ WALL) => atoms_spec (ws := wqX10_hasShip) B.pre w (List.mem_cons_of_mem _ h)
  have hown : s.vm.findClass RX10 = some m.cls := findClass_of_methodNamed B.named
  have hlocks := B.notSynchronized
  subst hsz
  have hD := hD0
  have hS : va_S (fun _ => True) s.heap s.heap [] := va_S.rf
  have hl := lv_entry ([.ref h0, .int v]) (n := 2) (Nat.le_of_ble_eq_true rfl)
  rw [lg_entry_eq]
  generalize (lg_sl ([.ref h0, .int v]) ++ List.replicate (2 - (lg_sl ([.ref h0, .int v])).length) Slot.unset).toArray = ls at hl ⊢
  have hl : lv_has ls 2 [(0, .ref h0), (1, .int v)] := hl
  refine tpk_11 hT ht_h0 (fun h0z_x0 h0z_x1 h0z_x2 h0z_x3 h0z_x4 h0z_x5 h0z_x6 hfz_h0 rzh0_0 rzh0_1 rzh0_2 rzh0_3 => ?_)
  obtain ⟨rfl, rfl, rfl, rfl, rfl, rfl, rfl⟩ := tp_same11 hf_h0 hfz_h0
  refine lv_iload_n hx hb dX10_hasShip_0 rfl (lv_at hl 1 rfl) ?_
  refine lv_if_lt (tgt := 16) hx hb dX10_hasShip_1 (by decide) (fun c1 => ?_) (fun c1 => ?_)
  · have ic1 : v.toInt < 0 := zi_lt rfl rfl c1
    refine lv_iconst (v := 0) hx hb dX10_hasShip_16 (by decide) ?_
    exact W.zret (v := 0) hx hb hr rfl (fun t ht hW => ⟨0, rfl, ⟨(by first | decide | omega), (Or.inr ⟨rfl, by omega⟩)⟩, ht⟩) (fun _ h => by cases h) dX10_hasShip_17
  · have ic1 : v.toInt ≥ 0 := zi_ltf rfl rfl c1
    refine lv_iload_n hx hb dX10_hasShip_4 rfl (lv_at hl 1 rfl) ?_
    refine lv_aload_n hx hb dX10_hasShip_5 rfl (lv_at hl 0 rfl) ?_
    refine tpk_pos (tp_in hG ht_h0 (by decide)) hf_h0 (fun q2 eq2 => ?_)
    have rzh0_2 := tp_hu rzh0_2
    refine va_get (D := (dC, dI)) (ci := 10) (v := .int h0_x5) (C := RX10) (T := TX10) (N := 19) hx hb hts hfX10 hown hK hP q2 eq2 rfl 5 (by decide) (hts (.fieldLink RX10 81 "ColdShips$World" "shipCount" "I") wa_330) (fun _ h9 => h9) rfl dX10_hasShip_6 ?_
    refine lv_icmp_ge (tgt := 16) hx hb dX10_hasShip_9 (by decide) (fun c3 => ?_) (fun c3 => ?_)
    · have ic3 : v.toInt ≥ h0_x5.toInt := zi_ge rfl rfl c3
      refine lv_iconst (v := 0) hx hb dX10_hasShip_16 (by decide) ?_
      exact W.zret (v := 0) hx hb hr rfl (fun t ht hW => ⟨0, rfl, ⟨(by first | decide | omega), (Or.inr ⟨rfl, by omega⟩)⟩, ht⟩) (fun _ h => by cases h) dX10_hasShip_17
    · have ic3 : v.toInt < h0_x5.toInt := zi_gef rfl rfl c3
      refine lv_iconst (v := 1) hx hb dX10_hasShip_12 (by decide) ?_
      refine lv_goto (tgt := 17) hx hb dX10_hasShip_13 (by decide) ?_
      exact W.zret (v := 1) hx hb hr rfl (fun t ht hW => ⟨1, rfl, ⟨(by first | decide | omega), (Or.inl ⟨rfl, by omega⟩)⟩, ht⟩) (fun _ h => by cases h) dX10_hasShip_17
set_option maxHeartbeats 4000000 in
set_option maxRecDepth 100000 in
theorem t_X10_hasContract (l : Launch) (dC : Nat → ClassId) (dI : Nat → Nat → Nat) (sz : Nat) (Ω : Nat → Nat → (Nat → Nat) → va_E → Prop) (κ : Nat → ClassId) (τ ν : Nat → Nat) (ρ : Nat → Nat → Nat) (L : List Nat) (f : Nat → va_E) (hG : tp_G τ ν ρ L) (hT : tp_T Ω κ τ ν ρ f) (h0 : Nat) (v : Int32) (ht_h0 : τ h0 = 11) (h0_x0 : Int32) (h0_x1 : Int32) (h0_x2 : Int32) (h0_x3 : Int32) (h0_x4 : Int32) (h0_x5 : Int32) (h0_x6 : Int32) (hf_h0 : f h0 = .inr (10, [.int h0_x0, .int h0_x1, .int h0_x2, .int h0_x3, .int h0_x4, .int h0_x5, .int h0_x6, .ref (ρ h0 7), .ref (ρ h0 8), .ref (ρ h0 9), .ref (ρ h0 10), .ref (ρ h0 11), .ref (ρ h0 12), .ref (ρ h0 13), .ref (ρ h0 14), .ref (ρ h0 15), .ref (ρ h0 16), .ref (ρ h0 17), .ref (ρ h0 18)])) (ρ_h0_11_g : Nat → Option Nat) (hf_ρ_h0_11 : f (ρ h0 11) = .inl (κ 6, 12, .inr (.inr (.inr (.inr ρ_h0_11_g))))) : Met l yX10_hasContract wqX10_hasContract ({ frames := 2, cells := 0, slots := 0, locals := 400 }) (va_Pc [.ref h0, .int v] (pz_B dC dI (tp_K κ) (va_pl L f) sz)) (vp_Si (fun r => (0 ≤ r.toInt ∧ r.toInt ≤ 1) ∧ (r.toInt ≠ 0 → ((0 ≤ v.toInt ∧ v.toInt ≤ 11) ∧ ∃ b : Nat, ρ_h0_11_g v.toNatClampNeg = some b ∧ τ b = 1)))) 0 0 (fun _ => False) := by
  refine Met.ofW (cc := cX10_hasContract) (maxL := 2) (ret := some .boolean) (by decide) rfl ?_
  intro p e s m args below meth c s₁ B hml hv
  obtain ⟨rfl, hsz, hP, hK, hD0, hN⟩ := hv
  have hx := B.exec
  have hb := B.bytes
  have hr := B.returns
  have hts := fun (w : Cond) (h : w ∈ WALL) => atoms_spec (ws := wqX10_hasContract) B.pre w (List.mem_cons_of_mem _ h)
  have hown : s.vm.findClass RX10 = some m.cls := findClass_of_methodNamed B.named
  have hlocks := B.notSynchronized
  subst hsz
  have hD := hD0
  have hS : va_S (fun _ => True) s.heap s.heap [] := va_S.rf
  have hl := lv_entry ([.ref h0, .int v]) (n := 2) (Nat.le_of_ble_eq_true rfl)
  rw [lg_entry_eq]
  generalize (lg_sl ([.ref h0, .int v]) ++ List.replicate (2 - (lg_sl ([.ref h0, .int v])).length) Slot.unset).toArray = ls at hl ⊢
  have hl : lv_has ls 2 [(0, .ref h0), (1, .int v)] := hl
  refine tpk_11 hT ht_h0 (fun h0z_x0 h0z_x1 h0z_x2 h0z_x3 h0z_x4 h0z_x5 h0z_x6 hfz_h0 rzh0_0 rzh0_1 rzh0_2 rzh0_3 => ?_)
  obtain ⟨rfl, rfl, rfl, rfl, rfl, rfl, rfl⟩ := tp_same11 hf_h0 hfz_h0
  refine tgk_11 hG ht_h0 (fun y1 y1n y2 y2n y3 y4 y5 y6 y6m y6l y7 y7m y7l y8 y8m y8l y9 y9w y9m y9l y10 y10w y10m y10l y11 y11w y11m y11l y12 y12w y12m y12l => ?_)
  refine tpk_26 hT y5 (fun gz_ρ_h0_11 hfz_ρ_h0_11 hf_ρ_h0_11e => ?_)
  obtain rfl := tp_sameq hf_ρ_h0_11 hfz_ρ_h0_11
  refine lv_iload_n hx hb dX10_hasContract_0 rfl (lv_at hl 1 rfl) ?_
  refine lv_if_lt (tgt := 25) hx hb dX10_hasContract_1 (by decide) (fun c13 => ?_) (fun c13 => ?_)
  · have ic13 : v.toInt < 0 := zi_lt rfl rfl c13
    refine lv_iconst (v := 0) hx hb dX10_hasContract_25 (by decide) ?_
    exact W.zret (v := 0) hx hb hr rfl (fun t ht hW => ⟨0, rfl, ⟨(by first | decide | omega), (fun q => absurd rfl q)⟩, ht⟩) (fun _ h => by cases h) dX10_hasContract_26
  · have ic13 : v.toInt ≥ 0 := zi_ltf rfl rfl c13
    refine lv_iload_n hx hb dX10_hasContract_4 rfl (lv_at hl 1 rfl) ?_
    refine lv_aload_n hx hb dX10_hasContract_5 rfl (lv_at hl 0 rfl) ?_
    refine tpk_pos (tp_in hG ht_h0 (by decide)) hf_h0 (fun q14 eq14 => ?_)
    have rzh0_3 := tp_hu rzh0_3
    refine va_get (D := (dC, dI)) (ci := 10) (v := .int h0_x6) (C := RX10) (T := TX10) (N := 19) hx hb hts hfX10 hown hK hP q14 eq14 rfl 6 (by decide) (hts (.fieldLink RX10 84 "ColdShips$World" "contractCount" "I") wa_1129) (fun _ h9 => h9) rfl dX10_hasContract_6 ?_
    refine lv_icmp_ge (tgt := 25) hx hb dX10_hasContract_9 (by decide) (fun c15 => ?_) (fun c15 => ?_)
    · have ic15 : v.toInt ≥ h0_x6.toInt := zi_ge rfl rfl c15
      refine lv_iconst (v := 0) hx hb dX10_hasContract_25 (by decide) ?_
      exact W.zret (v := 0) hx hb hr rfl (fun t ht hW => ⟨0, rfl, ⟨(by first | decide | omega), (fun q => absurd rfl q)⟩, ht⟩) (fun _ h => by cases h) dX10_hasContract_26
    · have ic15 : v.toInt < h0_x6.toInt := zi_gef rfl rfl c15
      refine lv_aload_n hx hb dX10_hasContract_12 rfl (lv_at hl 0 rfl) ?_
      refine va_get (D := (dC, dI)) (ci := 10) (v := .ref (ρ h0 11)) (C := RX10) (T := TX10) (N := 19) hx hb hts hfX10 hown hK hP q14 eq14 rfl 11 (by decide) (hts (.fieldLink RX10 39 "ColdShips$World" "contracts" "[LColdShips$Contract;") wa_47) (fun _ h9 => h9) rfl dX10_hasContract_13 ?_
      refine lv_iload_n hx hb dX10_hasContract_16 rfl (lv_at hl 1 rfl) ?_
      refine tpk_pos (tp_in hG y5 (by decide)) hf_ρ_h0_11 (fun q16 eq16 => ?_)
      refine va_aldq hx hb hK hP q16 6 eq16 rfl (vp_in_iff.mpr ⟨by omega, by omega⟩) dX10_hasContract_17 ?_
      have hq17 := hf_ρ_h0_11e v.toNatClampNeg (zi_cl (vp_in_iff.mpr ⟨by omega, by omega⟩))
      rcases hq17 with hq19 | ⟨b18, hq19, hq19t⟩
      · rw [hq19]
        refine lv_ifnullN (tgt := 25) hx hb dX10_hasContract_18 (by decide) ?_
        refine lv_iconst (v := 0) hx hb dX10_hasContract_25 (by decide) ?_
        exact W.zret (v := 0) hx hb hr rfl (fun t ht hW => ⟨0, rfl, ⟨(by first | decide | omega), (fun q => absurd rfl q)⟩, ht⟩) (fun _ h => by cases h) dX10_hasContract_26
      · rw [hq19]
        refine lv_ifnull hx hb dX10_hasContract_18 ?_
        refine lv_iconst (v := 1) hx hb dX10_hasContract_21 (by decide) ?_
        refine lv_goto (tgt := 26) hx hb dX10_hasContract_22 (by decide) ?_
        exact W.zret (v := 1) hx hb hr rfl (fun t ht hW => ⟨1, rfl, ⟨(by first | decide | omega), (fun _ => ⟨by omega, b18, by first | exact hq19 | rfl, hq19t⟩)⟩, ht⟩) (fun _ h => by cases h) dX10_hasContract_26
set_option maxHeartbeats 4000000 in
set_option maxRecDepth 100000 in
theorem t_X10_hoursBetween (l : Launch) (dC : Nat → ClassId) (dI : Nat → Nat → Nat) (sz : Nat) (Ω : Nat → Nat → (Nat → Nat) → va_E → Prop) (κ : Nat → ClassId) (τ ν : Nat → Nat) (ρ : Nat → Nat → Nat) (L : List Nat) (f : Nat → va_E) (hG : tp_G τ ν ρ L) (hT : tp_T Ω κ τ ν ρ f) (h0 : Nat) (v : Int32) (u : Int32) (ht_h0 : τ h0 = 11) (h0_x0 : Int32) (h0_x1 : Int32) (h0_x2 : Int32) (h0_x3 : Int32) (h0_x4 : Int32) (h0_x5 : Int32) (h0_x6 : Int32) (hf_h0 : f h0 = .inr (10, [.int h0_x0, .int h0_x1, .int h0_x2, .int h0_x3, .int h0_x4, .int h0_x5, .int h0_x6, .ref (ρ h0 7), .ref (ρ h0 8), .ref (ρ h0 9), .ref (ρ h0 10), .ref (ρ h0 11), .ref (ρ h0 12), .ref (ρ h0 13), .ref (ρ h0 14), .ref (ρ h0 15), .ref (ρ h0 16), .ref (ρ h0 17), .ref (ρ h0 18)])) : Met l yX10_hoursBetween wqX10_hoursBetween ({ frames := 3, cells := 0, slots := 0, locals := 800 }) (va_Pc [.ref h0, .int v, .int u] (pz_B dC dI (tp_K κ) (va_pl L f) sz)) (vp_Si (fun r => ((-1) ≤ r.toInt) ∧ (r.toInt ≠ -1 → 0 ≤ v.toInt ∧ v.toInt ≤ 5 ∧ 0 ≤ u.toInt ∧ u.toInt ≤ 5))) 0 0 (fun _ => False) := by
  refine Met.ofW (cc := cX10_hoursBetween) (maxL := 4) (ret := some .int) (by decide) rfl ?_
  intro p e s m args below meth c s₁ B hml hv
  obtain ⟨rfl, hsz, hP, hK, hD0, hN⟩ := hv
  have hx := B.exec
  have hb := B.bytes
  have hr := B.returns
  have hts := fun (w : Cond) (h : w ∈ WALL) => atoms_spec (ws := wqX10_hoursBetween) B.pre w (List.mem_cons_of_mem _ h)
  have hown : s.vm.findClass RX10 = some m.cls := findClass_of_methodNamed B.named
  have hlocks := B.notSynchronized
  subst hsz
  have hD := hD0
  have hS : va_S (fun _ => True) s.heap s.heap [] := va_S.rf
  have hl := lv_entry ([.ref h0, .int v, .int u]) (n := 4) (Nat.le_of_ble_eq_true rfl)
  rw [lg_entry_eq]
  generalize (lg_sl ([.ref h0, .int v, .int u]) ++ List.replicate (4 - (lg_sl ([.ref h0, .int v, .int u])).length) Slot.unset).toArray = ls at hl ⊢
  have hl : lv_has ls 4 [(0, .ref h0), (1, .int v), (2, .int u)] := hl
  refine tpk_11 hT ht_h0 (fun h0z_x0 h0z_x1 h0z_x2 h0z_x3 h0z_x4 h0z_x5 h0z_x6 hfz_h0 rzh0_0 rzh0_1 rzh0_2 rzh0_3 => ?_)
  obtain ⟨rfl, rfl, rfl, rfl, rfl, rfl, rfl⟩ := tp_same11 hf_h0 hfz_h0
  refine lv_aload_n hx hb dX10_hoursBetween_0 rfl (lv_at hl 0 rfl) ?_
  refine lv_iload_n hx hb dX10_hoursBetween_1 rfl (lv_at hl 1 rfl) ?_
  refine tpk_pos (tp_in hG ht_h0 (by decide)) hf_h0 (fun q1 eq1 => ?_)
  have rzh0_0 := tp_hu rzh0_0; have rzh0_1 := tp_hu rzh0_1; have rzh0_2 := tp_hu rzh0_2; have rzh0_3 := tp_hu rzh0_3
  refine pz_calli (va_runV (As := [.int v]) (rest := []) ⟨hx, hb, hml, hown, hts⟩ (t_X10_hasTerminal l dC dI _ Ω κ τ ν ρ L f hG hT h0 v ht_h0 h0_x0 h0_x1 h0_x2 h0_x3 h0_x4 h0_x5 h0_x6 hf_h0) (cwV 1 hts gX10_hoursBetween_X10_hasTerminal rfl rfl rfl ⟨rfl, pd_X10_hasTerminal⟩ ⟨Nat.le_of_ble_eq_true rfl, Nat.le_of_ble_eq_true rfl⟩) ⟨pz_blind, va_recv hK hP (ci := 10) (q0 := q1) rfl eq1, pz_pre hP hK hD hN⟩ rfl rfl hl.1 rfl (lv_room (Nat.le_of_ble_eq_true rfl)) dX10_hoursBetween_2 ⟨Nat.le_of_ble_eq_true rfl, Nat.le_of_ble_eq_true rfl⟩) (fun r2 hw3 => ?_)
  obtain ⟨hw3r, hw3p⟩ := hw3
  refine lv_if_eq (tgt := 16) hx hb dX10_hoursBetween_5 (by decide) (fun c4 => ?_) (fun c4 => ?_)
  · have ic4 : r2.toInt = 0 := zi_eq rfl rfl c4
    clear hw3r ic4
    refine lv_iconst (v := (-1)) hx hb dX10_hoursBetween_16 (by decide) ?_
    exact W.iret (v := (-1)) hx hb hr (fun t ht hW => ⟨(-1), rfl, ⟨(by first | decide | omega), (fun q => absurd rfl q)⟩, ht⟩) (fun _ h => by cases h) dX10_hoursBetween_17
  · have ic4 : r2.toInt ≠ 0 := zi_eqf rfl rfl c4
    have p5 : 0 ≤ v.toInt ∧ v.toInt < h0_x4.toInt := (tp_cond.yes hw3p) (by omega)
    clear hw3r ic4
    refine lv_aload_n hx hb dX10_hoursBetween_8 rfl (lv_at hl 0 rfl) ?_
    refine lv_iload_n hx hb dX10_hoursBetween_9 rfl (lv_at hl 2 rfl) ?_
    refine pz_calli (va_runV (As := [.int u]) (rest := []) ⟨hx, hb, hml, hown, hts⟩ (t_X10_hasTerminal l dC dI _ Ω κ τ ν ρ L f hG hT h0 u ht_h0 h0_x0 h0_x1 h0_x2 h0_x3 h0_x4 h0_x5 h0_x6 hf_h0) (cwV 1 hts gX10_hoursBetween_X10_hasTerminal rfl rfl rfl ⟨rfl, pd_X10_hasTerminal⟩ ⟨Nat.le_of_ble_eq_true rfl, Nat.le_of_ble_eq_true rfl⟩) ⟨pz_blind, va_recv hK hP (ci := 10) (q0 := q1) rfl eq1, pz_pre hP hK hD hN⟩ rfl rfl hl.1 rfl (lv_room (Nat.le_of_ble_eq_true rfl)) dX10_hoursBetween_10 ⟨Nat.le_of_ble_eq_true rfl, Nat.le_of_ble_eq_true rfl⟩) (fun r6 hw7 => ?_)
    obtain ⟨hw7r, hw7p⟩ := hw7
    refine lv_if_ne (tgt := 18) hx hb dX10_hoursBetween_13 (by decide) (fun c8 => ?_) (fun c8 => ?_)
    · have ic8 : r6.toInt ≠ 0 := zi_ne rfl rfl c8
      have p9 : 0 ≤ u.toInt ∧ u.toInt < h0_x4.toInt := (tp_cond.yes hw7p) (by omega)
      clear hw7r ic8
      refine lv_iload_n hx hb dX10_hoursBetween_18 rfl (lv_at hl 1 rfl) ?_
      refine lv_iload_n hx hb dX10_hoursBetween_19 rfl (lv_at hl 2 rfl) ?_
      refine lv_icmp_ne (tgt := 25) hx hb dX10_hoursBetween_20 (by decide) (fun c10 => ?_) (fun c10 => ?_)
      · have ic10 : v.toInt ≠ u.toInt := zi_ne rfl rfl c10
        refine lv_aload_n hx hb dX10_hoursBetween_25 rfl (lv_at hl 0 rfl) ?_
        refine va_get (D := (dC, dI)) (ci := 10) (v := .ref (ρ h0 9)) (C := RX10) (T := TX10) (N := 19) hx hb hts hfX10 hown hK hP q1 eq1 rfl 9 (by decide) (hts (.fieldLink RX10 27 "ColdShips$World" "terminals" "[LColdShips$Terminal;") wa_43) (fun _ h9 => h9) rfl dX10_hoursBetween_26 ?_
        refine lv_iload_n hx hb dX10_hoursBetween_29 rfl (lv_at hl 1 rfl) ?_
        refine tgk_11 hG ht_h0 (fun y11 y11n y12 y12n y13 y14 y15 y16 y16m y16l y17 y17m y17l y18 y18m y18l y19 y19w y19m y19l y20 y20w y20m y20l y21 y21w y21m y21l y22 y22w y22m y22l => ?_)
        refine tpk_24 hT y13 (fun g24 hf_o23 hf_o23e => ?_)
        refine tpk_pos (tp_in hG y13 (by decide)) hf_o23 (fun q25 eq25 => ?_)
        refine va_aldq hx hb hK hP q25 4 eq25 rfl (vp_in_iff.mpr ⟨by omega, by omega⟩) dX10_hoursBetween_30 ?_
        obtain ⟨b26, hb27⟩ : ∃ b : Nat, b = ρ (ρ h0 9) v.toNatClampNeg := ⟨_, rfl⟩
        have hb27t : τ b26 = 9 := by rw [hb27]; exact tpg_24 hG y13 _ (zi_cl (vp_in_iff.mpr ⟨by omega, by omega⟩))
        have hb27g : g24 v.toNatClampNeg = some b26 := by rw [hb27]; exact hf_o23e _ (zi_cl (vp_in_iff.mpr ⟨by omega, by omega⟩))
        refine W.eq (g2 := F0 m 31 ls (.ref b26 :: [])) (congrArg (fun o => F0 m 31 ls (va_rf o :: [])) hb27g) ?_
        refine tgk_9 hG hb27t (fun y28 y28n y29 y29n => ?_)
        refine tpk_9 hT hb27t (fun o30_x0 o30_x1 o30_x2 o30_x3 o30_x4 hf_o30 ro30_0 => ?_)
        refine tpk_pos (tp_in hG hb27t (by decide)) hf_o30 (fun q31 eq31 => ?_)
        refine va_getN (D := (dC, dI)) (ci := 8) (v := .ref (ρ b26 5)) (C := RX8) (T := TX8) (N := 7) hx hb hts hfX8 hown hK hP q31 eq31 rfl 5 (by decide) (va_Nw.use rfl (hN.1 (.fieldLinkNest RX10 97 "ColdShips$Terminal" "wayHours" "[I" "ColdShips") nzw_12)) (fun _ h9 => h9) rfl dX10_hoursBetween_31 ?_
        refine lv_iload_n hx hb dX10_hoursBetween_34 rfl (lv_at hl 2 rfl) ?_
        refine tpk_20 hT y28 y28n (fun g33 hf_o32 => ?_)
        refine tpk_pos (tp_in hG y28 (by decide)) hf_o32 (fun q34 eq34 => ?_)
        refine va_iald hx hb hK hP q34 0 eq34 rfl (vp_in_iff.mpr ⟨by omega, by omega⟩) dX10_hoursBetween_35 ?_
        refine lv_topi (fun z35 ez35 => ?_)
        refine lv_istore_n (lv' := [(3, .int z35), (0, .ref h0), (1, .int v), (2, .int u)]) hx hb dX10_hoursBetween_36 rfl hl (by decide) rfl (fun ls hl => ?_)
        refine lv_iload_n hx hb dX10_hoursBetween_37 rfl (lv_at hl 0 rfl) ?_
        refine lv_if_le (tgt := 45) hx hb dX10_hoursBetween_38 (by decide) (fun c36 => ?_) (fun c36 => ?_)
        · have ic36 : z35.toInt ≤ 0 := zi_le rfl rfl c36
          refine lv_iconst (v := (-1)) hx hb dX10_hoursBetween_45 (by decide) ?_
          exact W.iret (v := (-1)) hx hb hr (fun t ht hW => ⟨(-1), rfl, ⟨(by first | decide | omega), (fun q => absurd rfl q)⟩, ht⟩) (fun _ h => by cases h) dX10_hoursBetween_46
        · have ic36 : z35.toInt > 0 := zi_lef rfl rfl c36
          refine lv_iload_n hx hb dX10_hoursBetween_41 rfl (lv_at hl 0 rfl) ?_
          refine lv_goto (tgt := 46) hx hb dX10_hoursBetween_42 (by decide) ?_
          exact W.iret (v := z35) hx hb hr (fun t ht hW => ⟨z35, rfl, ⟨(by first | decide | omega), (fun q => by omega)⟩, ht⟩) (fun _ h => by cases h) dX10_hoursBetween_46
      · have ic10 : v.toInt = u.toInt := zi_nef rfl rfl c10
        refine lv_iconst (v := 0) hx hb dX10_hoursBetween_23 (by decide) ?_
        exact W.iret (v := 0) hx hb hr (fun t ht hW => ⟨0, rfl, ⟨(by first | decide | omega), (fun _ => by omega)⟩, ht⟩) (fun _ h => by cases h) dX10_hoursBetween_24
    · have ic8 : r6.toInt = 0 := zi_nef rfl rfl c8
      clear hw7r ic8
      refine lv_iconst (v := (-1)) hx hb dX10_hoursBetween_16 (by decide) ?_
      exact W.iret (v := (-1)) hx hb hr (fun t ht hW => ⟨(-1), rfl, ⟨(by first | decide | omega), (fun q => absurd rfl q)⟩, ht⟩) (fun _ h => by cases h) dX10_hoursBetween_17
set_option maxHeartbeats 4000000 in
set_option maxRecDepth 100000 in
theorem t_X10_isSettled (l : Launch) (dC : Nat → ClassId) (dI : Nat → Nat → Nat) (sz : Nat) (Ω : Nat → Nat → (Nat → Nat) → va_E → Prop) (κ : Nat → ClassId) (τ ν : Nat → Nat) (ρ : Nat → Nat → Nat) (L : List Nat) (f : Nat → va_E) (hG : tp_G τ ν ρ L) (hT : tp_T Ω κ τ ν ρ f) (h0 : Nat) (v : Int32) (ht_h0 : τ h0 = 11) : Met l yX10_isSettled wqX10_isSettled ({ frames := 3, cells := 0, slots := 0, locals := 800 }) (va_Pc [.ref h0, .int v] (pz_B dC dI (tp_K κ) (va_pl L f) sz)) (vp_Si (fun r => (0 ≤ r.toInt ∧ r.toInt ≤ 1) ∧ True)) 0 0 (fun _ => False) := by
  refine Met.ofW (cc := cX10_isSettled) (maxL := 2) (ret := some .boolean) (by decide) rfl ?_
  intro p e s m args below meth c s₁ B hml hv
  obtain ⟨rfl, hsz, hP, hK, hD0, hN⟩ := hv
  have hx := B.exec
  have hb := B.bytes
  have hr := B.returns
  have hts := fun (w : Cond) (h : w ∈ WALL) => atoms_spec (ws := wqX10_isSettled) B.pre w (List.mem_cons_of_mem _ h)
  have hown : s.vm.findClass RX10 = some m.cls := findClass_of_methodNamed B.named
  have hlocks := B.notSynchronized
  subst hsz
  have hD := hD0
  have hS : va_S (fun _ => True) s.heap s.heap [] := va_S.rf
  have hl := lv_entry ([.ref h0, .int v]) (n := 2) (Nat.le_of_ble_eq_true rfl)
  rw [lg_entry_eq]
  generalize (lg_sl ([.ref h0, .int v]) ++ List.replicate (2 - (lg_sl ([.ref h0, .int v])).length) Slot.unset).toArray = ls at hl ⊢
  have hl : lv_has ls 2 [(0, .ref h0), (1, .int v)] := hl
  refine lv_aload_n hx hb dX10_isSettled_0 rfl (lv_at hl 0 rfl) ?_
  refine tgk_11 hG ht_h0 (fun y1 y1n y2 y2n y3 y4 y5 y6 y6m y6l y7 y7m y7l y8 y8m y8l y9 y9w y9m y9l y10 y10w y10m y10l y11 y11w y11m y11l y12 y12w y12m y12l => ?_)
  refine tpk_11 hT ht_h0 (fun o13_x0 o13_x1 o13_x2 o13_x3 o13_x4 o13_x5 o13_x6 hf_o13 ro13_0 ro13_1 ro13_2 ro13_3 => ?_)
  refine tpk_pos (tp_in hG ht_h0 (by decide)) hf_o13 (fun q14 eq14 => ?_)
  refine va_get (D := (dC, dI)) (ci := 10) (v := .ref (ρ h0 17)) (C := RX10) (T := TX10) (N := 19) hx hb hts hfX10 hown hK hP q14 eq14 rfl 17 (by decide) (hts (.fieldLink RX10 70 "ColdShips$World" "landings" "LColdShips$Rows;") wa_59) (fun _ h9 => h9) rfl dX10_isSettled_1 ?_
  refine lv_iload_n hx hb dX10_isSettled_4 rfl (lv_at hl 1 rfl) ?_
  refine lv_bipush (v := 12) hx hb dX10_isSettled_5 (by decide) ?_
  refine tgk_5 hG y11 (fun y15 y15n y16a y16b y16c => ?_)
  refine tpk_5 hT y11 (fun o17_x0 o17_x2 hf_o17 ro17_0 ro17_1 => ?_)
  refine tpk_pos (tp_in hG y11 (by decide)) hf_o17 (fun q18 eq18 => ?_)
  have ro17_0 := tp_hu ro17_0; have ro17_1 := tp_hu ro17_1
  refine pz_calll (va_runV (As := [.int v, .int 12]) (rest := []) ⟨hx, hb, hml, hown, hts⟩ (t_X4_at l dC dI _ Ω κ τ ν ρ L f hG hT (ρ h0 17) v (12) y11 o17_x0 o17_x2 hf_o17) (cwV 2 hts gX10_isSettled_X4_at rfl rfl rfl ⟨rfl, pd_X4_at⟩ ⟨Nat.le_of_ble_eq_true rfl, Nat.le_of_ble_eq_true rfl⟩) ⟨pz_blind, va_recv hK hP (ci := 4) (q0 := q18) rfl eq18, pz_pre hP hK hD hN⟩ rfl rfl hl.1 rfl (lv_room (Nat.le_of_ble_eq_true rfl)) dX10_isSettled_7 ⟨Nat.le_of_ble_eq_true rfl, Nat.le_of_ble_eq_true rfl⟩) (fun r19 hw20 => ?_)
  obtain ⟨hw20r, hw20p⟩ := hw20
  refine lv_ldc2 (own := RX10) (v := (-1)) hx hb hown (hts (.constantLong RX10 91 (-1)) wa_695) dX10_isSettled_10 ?_
  refine W.lcmp hx hb dX10_isSettled_13 ?_
  refine lv_if_eq (tgt := 21) hx hb dX10_isSettled_14 (by decide) (fun c21 => ?_) (fun c21 => ?_)
  · have ic21 : r19.toInt = (-1) := zl_eq rfl rfl c21
    refine lv_iconst (v := 0) hx hb dX10_isSettled_21 (by decide) ?_
    exact W.zret (v := 0) hx hb hr rfl (fun t ht hW => ⟨0, rfl, ⟨(by first | decide | omega), trivial⟩, ht⟩) (fun _ h => by cases h) dX10_isSettled_22
  · have ic21 : r19.toInt ≠ (-1) := zl_eqf rfl rfl c21
    refine lv_iconst (v := 1) hx hb dX10_isSettled_17 (by decide) ?_
    refine lv_goto (tgt := 22) hx hb dX10_isSettled_18 (by decide) ?_
    exact W.zret (v := 1) hx hb hr rfl (fun t ht hW => ⟨1, rfl, ⟨(by first | decide | omega), trivial⟩, ht⟩) (fun _ h => by cases h) dX10_isSettled_22
set_option maxHeartbeats 4000000 in
set_option maxRecDepth 100000 in
theorem t_X10_heatOf (l : Launch) (dC : Nat → ClassId) (dI : Nat → Nat → Nat) (sz : Nat) (Ω : Nat → Nat → (Nat → Nat) → va_E → Prop) (κ : Nat → ClassId) (τ ν : Nat → Nat) (ρ : Nat → Nat → Nat) (L : List Nat) (f : Nat → va_E) (hG : tp_G τ ν ρ L) (hT : tp_T Ω κ τ ν ρ f) (h0 : Nat) (v : Int32) (ht_h0 : τ h0 = 11) : Met l yX10_heatOf wqX10_heatOf ({ frames := 3, cells := 0, slots := 0, locals := 800 }) (va_Pc [.ref h0, .int v] (pz_B dC dI (tp_K κ) (va_pl L f) sz)) (vp_Sl (fun r => True ∧ True)) 0 0 (fun _ => False) := by
  refine Met.ofW (cc := cX10_heatOf) (maxL := 7) (ret := some .long) (by decide) rfl ?_
  intro p e s m args below meth c s₁ B hml hv
  obtain ⟨rfl, hsz, hP, hK, hD0, hN⟩ := hv
  have hx := B.exec
  have hb := B.bytes
  have hr := B.returns
  have hts := fun (w : Cond) (h : w ∈ WALL) => atoms_spec (ws := wqX10_heatOf) B.pre w (List.mem_cons_of_mem _ h)
  have hown : s.vm.findClass RX10 = some m.cls := findClass_of_methodNamed B.named
  have hlocks := B.notSynchronized
  subst hsz
  have hD := hD0
  have hS : va_S (fun _ => True) s.heap s.heap [] := va_S.rf
  have hl := lv_entry ([.ref h0, .int v]) (n := 7) (Nat.le_of_ble_eq_true rfl)
  rw [lg_entry_eq]
  generalize (lg_sl ([.ref h0, .int v]) ++ List.replicate (7 - (lg_sl ([.ref h0, .int v])).length) Slot.unset).toArray = ls at hl ⊢
  have hl : lv_has ls 7 [(0, .ref h0), (1, .int v)] := hl
  refine lv_aload_n hx hb dX10_heatOf_0 rfl (lv_at hl 0 rfl) ?_
  refine tgk_11 hG ht_h0 (fun y1 y1n y2 y2n y3 y4 y5 y6 y6m y6l y7 y7m y7l y8 y8m y8l y9 y9w y9m y9l y10 y10w y10m y10l y11 y11w y11m y11l y12 y12w y12m y12l => ?_)
  refine tpk_11 hT ht_h0 (fun o13_x0 o13_x1 o13_x2 o13_x3 o13_x4 o13_x5 o13_x6 hf_o13 ro13_0 ro13_1 ro13_2 ro13_3 => ?_)
  refine tpk_pos (tp_in hG ht_h0 (by decide)) hf_o13 (fun q14 eq14 => ?_)
  refine va_get (D := (dC, dI)) (ci := 10) (v := .ref (ρ h0 17)) (C := RX10) (T := TX10) (N := 19) hx hb hts hfX10 hown hK hP q14 eq14 rfl 17 (by decide) (hts (.fieldLink RX10 70 "ColdShips$World" "landings" "LColdShips$Rows;") wa_59) (fun _ h9 => h9) rfl dX10_heatOf_1 ?_
  refine lv_iload_n hx hb dX10_heatOf_4 rfl (lv_at hl 1 rfl) ?_
  refine lv_iconst (v := 4) hx hb dX10_heatOf_5 (by decide) ?_
  refine tgk_5 hG y11 (fun y15 y15n y16a y16b y16c => ?_)
  refine tpk_5 hT y11 (fun o17_x0 o17_x2 hf_o17 ro17_0 ro17_1 => ?_)
  refine tpk_pos (tp_in hG y11 (by decide)) hf_o17 (fun q18 eq18 => ?_)
  have ro17_0 := tp_hu ro17_0; have ro17_1 := tp_hu ro17_1
  refine pz_calll (va_runV (As := [.int v, .int 4]) (rest := []) ⟨hx, hb, hml, hown, hts⟩ (t_X4_at l dC dI _ Ω κ τ ν ρ L f hG hT (ρ h0 17) v (4) y11 o17_x0 o17_x2 hf_o17) (cwV 2 hts gX10_heatOf_X4_at rfl rfl rfl ⟨rfl, pd_X4_at⟩ ⟨Nat.le_of_ble_eq_true rfl, Nat.le_of_ble_eq_true rfl⟩) ⟨pz_blind, va_recv hK hP (ci := 4) (q0 := q18) rfl eq18, pz_pre hP hK hD hN⟩ rfl rfl hl.1 rfl (lv_room (Nat.le_of_ble_eq_true rfl)) dX10_heatOf_6 ⟨Nat.le_of_ble_eq_true rfl, Nat.le_of_ble_eq_true rfl⟩) (fun r19 hw20 => ?_)
  obtain ⟨hw20r, hw20p⟩ := hw20
  refine lv_lstore_n (lv' := [(2, .long r19), (0, .ref h0), (1, .int v)]) hx hb dX10_heatOf_9 rfl hl (by decide) rfl (fun ls hl => ?_)
  refine lv_lload_n hx hb dX10_heatOf_10 rfl (lv_at hl 0 rfl) ?_
  refine lv_lconst (v := 0) hx hb dX10_heatOf_11 (by decide) ?_
  refine W.lcmp hx hb dX10_heatOf_12 ?_
  refine lv_if_gt (tgt := 18) hx hb dX10_heatOf_13 (by decide) (fun c21 => ?_) (fun c21 => ?_)
  · have ic21 : r19.toInt > 0 := zl_gt rfl rfl c21
    refine lv_lconst (v := 0) hx hb dX10_heatOf_18 (by decide) ?_
    refine lv_lstore (lv' := [(4, .long 0), (2, .long r19), (0, .ref h0), (1, .int v)]) hx hb dX10_heatOf_19 hl (by decide) rfl (fun ls hl => ?_)
    refine lv_iconst (v := 0) hx hb dX10_heatOf_21 (by decide) ?_
    refine lv_istore (lv' := [(6, .int 0), (4, .long 0), (2, .long r19), (0, .ref h0), (1, .int v)]) hx hb dX10_heatOf_22 hl (by decide) rfl (fun ls hl => ?_)
    refine pz_loop (fun n0 H locs ls => ∃ w22 : Int32, ∃ w23 : Int64, n0 = (6 - (w22.toInt)).toNat ∧ (0 ≤ w22.toInt ∧ w22.toInt ≤ 6) ∧ H = s.heap ∧ locs = [] ∧ lv_has ls 7 [(6, .int w22), (4, .long w23), (2, .long r19), (0, .ref h0), (1, .int v)]) ?_ _ _ _ _ ⟨0, 0, rfl, (by have : (0 : Int32).toInt = 0 := rfl; have : (0 : Int64).toInt = 0 := rfl; omega), rfl, rfl, lv_sub hl [0, 1, 2, 3, 4] rfl⟩
    intro n0 H locs ls hI ih24
    refine Exists.elim hI (fun w22 hE90 => Exists.elim hE90 (fun w23 hE91 => tn_5 hE91 (fun hn25 rw22 e92 e93 hl => ?_)))
    clear hE91 hE90 hI; subst e92; subst e93
    refine lv_iload hx hb dX10_heatOf_24 (lv_at hl 0 rfl) ?_
    refine lv_bipush (v := 6) hx hb dX10_heatOf_26 (by decide) ?_
    refine lv_icmp_ge (tgt := 66) hx hb dX10_heatOf_28 (by decide) (fun c26 => ?_) (fun c26 => ?_)
    · have ic26 : w22.toInt ≥ 6 := zi_ge rfl rfl c26
      refine lv_lload hx hb dX10_heatOf_66 (lv_at hl 1 rfl) ?_
      refine lv_lload_n hx hb dX10_heatOf_68 rfl (lv_at hl 2 rfl) ?_
      refine lv_ldiv hx hb dX10_heatOf_69 (zl_nz (by omega) rfl) ?_
      refine lv_topl (fun z27 ez27 => ?_)
      exact W.lret (v := z27) hx hb hr (fun t ht hW => ⟨z27, rfl, ⟨trivial, trivial⟩, ht⟩) (fun _ h => by cases h) dX10_heatOf_70
    · have ic26 : w22.toInt < 6 := zi_gef rfl rfl c26
      refine lv_lload hx hb dX10_heatOf_31 (lv_at hl 1 rfl) ?_
      refine lv_aload_n hx hb dX10_heatOf_33 rfl (lv_at hl 3 rfl) ?_
      refine va_get (D := (dC, dI)) (ci := 10) (v := .ref (ρ h0 17)) (C := RX10) (T := TX10) (N := 19) hx hb hts hfX10 hown hK hP q14 eq14 rfl 17 (by decide) (hts (.fieldLink RX10 70 "ColdShips$World" "landings" "LColdShips$Rows;") wa_59) (fun _ h9 => h9) rfl dX10_heatOf_34 ?_
      refine lv_iload_n hx hb dX10_heatOf_37 rfl (lv_at hl 4 rfl) ?_
      refine lv_iconst (v := 5) hx hb dX10_heatOf_38 (by decide) ?_
      refine lv_iload hx hb dX10_heatOf_39 (lv_at hl 0 rfl) ?_
      refine lv_iadd hx hb dX10_heatOf_41 ?_
      refine lv_topi (fun z28 ez28 => ?_)
      have iz28 : z28.toInt = 5 + w22.toInt := zi_add ez28 rfl rfl (by omega) (by omega)
      refine pz_calll (va_runV (As := [.int v, .int z28]) (rest := [.long w23]) ⟨hx, hb, hml, hown, hts⟩ (t_X4_at l dC dI _ Ω κ τ ν ρ L f hG hT (ρ h0 17) v z28 y11 o17_x0 o17_x2 hf_o17) (cwV 2 hts gX10_heatOf_X4_at rfl rfl rfl ⟨rfl, pd_X4_at⟩ ⟨Nat.le_of_ble_eq_true rfl, Nat.le_of_ble_eq_true rfl⟩) ⟨pz_blind, va_recv hK hP (ci := 4) (q0 := q18) rfl eq18, pz_pre hP hK hD hN⟩ rfl rfl hl.1 rfl (lv_room (Nat.le_of_ble_eq_true rfl)) dX10_heatOf_42 ⟨Nat.le_of_ble_eq_true rfl, Nat.le_of_ble_eq_true rfl⟩) (fun r29 hw30 => ?_)
      obtain ⟨hw30r, hw30p⟩ := hw30
      refine lv_aload_n hx hb dX10_heatOf_45 rfl (lv_at hl 3 rfl) ?_
      refine va_get (D := (dC, dI)) (ci := 10) (v := .ref (ρ h0 9)) (C := RX10) (T := TX10) (N := 19) hx hb hts hfX10 hown hK hP q14 eq14 rfl 9 (by decide) (hts (.fieldLink RX10 27 "ColdShips$World" "terminals" "[LColdShips$Terminal;") wa_43) (fun _ h9 => h9) rfl dX10_heatOf_46 ?_
      refine lv_iload hx hb dX10_heatOf_49 (lv_at hl 0 rfl) ?_
      refine tpk_24 hT y3 (fun g32 hf_o31 hf_o31e => ?_)
      refine tpk_pos (tp_in hG y3 (by decide)) hf_o31 (fun q33 eq33 => ?_)
      refine va_aldq hx hb hK hP q33 4 eq33 rfl (vp_in_iff.mpr ⟨by omega, by omega⟩) dX10_heatOf_51 ?_
      obtain ⟨b34, hb35⟩ : ∃ b : Nat, b = ρ (ρ h0 9) w22.toNatClampNeg := ⟨_, rfl⟩
      have hb35t : τ b34 = 9 := by rw [hb35]; exact tpg_24 hG y3 _ (zi_cl (vp_in_iff.mpr ⟨by omega, by omega⟩))
      have hb35g : g32 w22.toNatClampNeg = some b34 := by rw [hb35]; exact hf_o31e _ (zi_cl (vp_in_iff.mpr ⟨by omega, by omega⟩))
      refine W.eq (g2 := F0 m 52 ls (.ref b34 :: [.long r29, .long w23])) (congrArg (fun o => F0 m 52 ls (va_rf o :: [.long r29, .long w23])) hb35g) ?_
      refine tgk_9 hG hb35t (fun y36 y36n y37 y37n => ?_)
      refine tpk_9 hT hb35t (fun o38_x0 o38_x1 o38_x2 o38_x3 o38_x4 hf_o38 ro38_0 => ?_)
      refine tpk_pos (tp_in hG hb35t (by decide)) hf_o38 (fun q39 eq39 => ?_)
      refine va_getN (D := (dC, dI)) (ci := 8) (v := .int o38_x4) (C := RX8) (T := TX8) (N := 7) hx hb hts hfX8 hown hK hP q39 eq39 rfl 4 (by decide) (va_Nw.use rfl (hN.1 (.fieldLinkNest RX10 100 "ColdShips$Terminal" "heat" "I" "ColdShips") nzw_10)) (fun _ h9 => h9) rfl dX10_heatOf_52 ?_
      refine lv_i2l hx hb dX10_heatOf_55 rfl ?_
      refine lv_lmul hx hb dX10_heatOf_56 ?_
      refine lv_topl (fun z40 ez40 => ?_)
      refine lv_ladd hx hb dX10_heatOf_57 ?_
      refine lv_topl (fun z41 ez41 => ?_)
      refine lv_lstore (lv' := [(4, .long z41), (6, .int w22), (2, .long r19), (0, .ref h0), (1, .int v)]) hx hb dX10_heatOf_58 hl (by decide) rfl (fun ls hl => ?_)
      obtain ⟨z42, ez42⟩ : ∃ y : Int32, y = w22 + 1 := ⟨_, rfl⟩
      refine lv_iinc (v := z42) (lv' := [(6, .int z42), (4, .long z41), (2, .long r19), (0, .ref h0), (1, .int v)]) hx hb dX10_heatOf_60 hl (k := 1) rfl (by rw [ez42]; rfl) (by decide) rfl (fun ls hl => ?_)
      have iz42 : z42.toInt = w22.toInt + 1 := zi_add ez42 rfl rfl (by omega) (by omega)
      refine lv_goto (tgt := 24) hx hb dX10_heatOf_63 (by decide) ?_
      exact ih24 _ _ _ _ (by rw [hn25]; omega) ⟨z42, z41, rfl, (by omega), rfl, rfl, lv_sub hl [0, 1, 2, 3, 4] rfl⟩
  · have ic21 : r19.toInt ≤ 0 := zl_gtf rfl rfl c21
    refine lv_lconst (v := 0) hx hb dX10_heatOf_16 (by decide) ?_
    exact W.lret (v := 0) hx hb hr (fun t ht hW => ⟨0, rfl, ⟨trivial, trivial⟩, ht⟩) (fun _ h => by cases h) dX10_heatOf_17
set_option maxHeartbeats 4000000 in
set_option maxRecDepth 100000 in
theorem t_X10_billedOf (l : Launch) (dC : Nat → ClassId) (dI : Nat → Nat → Nat) (sz : Nat) (Ω : Nat → Nat → (Nat → Nat) → va_E → Prop) (κ : Nat → ClassId) (τ ν : Nat → Nat) (ρ : Nat → Nat → Nat) (L : List Nat) (f : Nat → va_E) (hG : tp_G τ ν ρ L) (hT : tp_T Ω κ τ ν ρ f) (h0 : Nat) (v : Int32) (ht_h0 : τ h0 = 11) : Met l yX10_billedOf wqX10_billedOf ({ frames := 3, cells := 0, slots := 0, locals := 800 }) (va_Pc [.ref h0, .int v] (pz_B dC dI (tp_K κ) (va_pl L f) sz)) (vp_Sl (fun r => True ∧ True)) 0 0 (fun _ => False) := by
  refine Met.ofW (cc := cX10_billedOf) (maxL := 4) (ret := some .long) (by decide) rfl ?_
  intro p e s m args below meth c s₁ B hml hv
  obtain ⟨rfl, hsz, hP, hK, hD0, hN⟩ := hv
  have hx := B.exec
  have hb := B.bytes
  have hr := B.returns
  have hts := fun (w : Cond) (h : w ∈ WALL) => atoms_spec (ws := wqX10_billedOf) B.pre w (List.mem_cons_of_mem _ h)
  have hown : s.vm.findClass RX10 = some m.cls := findClass_of_methodNamed B.named
  have hlocks := B.notSynchronized
  subst hsz
  have hD := hD0
  have hS : va_S (fun _ => True) s.heap s.heap [] := va_S.rf
  have hl := lv_entry ([.ref h0, .int v]) (n := 4) (Nat.le_of_ble_eq_true rfl)
  rw [lg_entry_eq]
  generalize (lg_sl ([.ref h0, .int v]) ++ List.replicate (4 - (lg_sl ([.ref h0, .int v])).length) Slot.unset).toArray = ls at hl ⊢
  have hl : lv_has ls 4 [(0, .ref h0), (1, .int v)] := hl
  refine lv_aload_n hx hb dX10_billedOf_0 rfl (lv_at hl 0 rfl) ?_
  refine tgk_11 hG ht_h0 (fun y1 y1n y2 y2n y3 y4 y5 y6 y6m y6l y7 y7m y7l y8 y8m y8l y9 y9w y9m y9l y10 y10w y10m y10l y11 y11w y11m y11l y12 y12w y12m y12l => ?_)
  refine tpk_11 hT ht_h0 (fun o13_x0 o13_x1 o13_x2 o13_x3 o13_x4 o13_x5 o13_x6 hf_o13 ro13_0 ro13_1 ro13_2 ro13_3 => ?_)
  refine tpk_pos (tp_in hG ht_h0 (by decide)) hf_o13 (fun q14 eq14 => ?_)
  refine va_get (D := (dC, dI)) (ci := 10) (v := .ref (ρ h0 17)) (C := RX10) (T := TX10) (N := 19) hx hb hts hfX10 hown hK hP q14 eq14 rfl 17 (by decide) (hts (.fieldLink RX10 70 "ColdShips$World" "landings" "LColdShips$Rows;") wa_59) (fun _ h9 => h9) rfl dX10_billedOf_1 ?_
  refine lv_iload_n hx hb dX10_billedOf_4 rfl (lv_at hl 1 rfl) ?_
  refine lv_bipush (v := 11) hx hb dX10_billedOf_5 (by decide) ?_
  refine tgk_5 hG y11 (fun y15 y15n y16a y16b y16c => ?_)
  refine tpk_5 hT y11 (fun o17_x0 o17_x2 hf_o17 ro17_0 ro17_1 => ?_)
  refine tpk_pos (tp_in hG y11 (by decide)) hf_o17 (fun q18 eq18 => ?_)
  have ro17_0 := tp_hu ro17_0; have ro17_1 := tp_hu ro17_1
  refine pz_calll (va_runV (As := [.int v, .int 11]) (rest := []) ⟨hx, hb, hml, hown, hts⟩ (t_X4_at l dC dI _ Ω κ τ ν ρ L f hG hT (ρ h0 17) v (11) y11 o17_x0 o17_x2 hf_o17) (cwV 2 hts gX10_billedOf_X4_at rfl rfl rfl ⟨rfl, pd_X4_at⟩ ⟨Nat.le_of_ble_eq_true rfl, Nat.le_of_ble_eq_true rfl⟩) ⟨pz_blind, va_recv hK hP (ci := 4) (q0 := q18) rfl eq18, pz_pre hP hK hD hN⟩ rfl rfl hl.1 rfl (lv_room (Nat.le_of_ble_eq_true rfl)) dX10_billedOf_7 ⟨Nat.le_of_ble_eq_true rfl, Nat.le_of_ble_eq_true rfl⟩) (fun r19 hw20 => ?_)
  obtain ⟨hw20r, hw20p⟩ := hw20
  refine lv_lstore_n (lv' := [(2, .long r19), (0, .ref h0), (1, .int v)]) hx hb dX10_billedOf_10 rfl hl (by decide) rfl (fun ls hl => ?_)
  refine lv_lload_n hx hb dX10_billedOf_11 rfl (lv_at hl 0 rfl) ?_
  refine lv_ldc2 (own := RX10) (v := (-1)) hx hb hown (hts (.constantLong RX10 91 (-1)) wa_695) dX10_billedOf_12 ?_
  refine W.lcmp hx hb dX10_billedOf_15 ?_
  refine lv_if_eq (tgt := 23) hx hb dX10_billedOf_16 (by decide) (fun c21 => ?_) (fun c21 => ?_)
  · have ic21 : r19.toInt = (-1) := zl_eq rfl rfl c21
    refine lv_aload_n hx hb dX10_billedOf_23 rfl (lv_at hl 1 rfl) ?_
    refine va_get (D := (dC, dI)) (ci := 10) (v := .ref (ρ h0 17)) (C := RX10) (T := TX10) (N := 19) hx hb hts hfX10 hown hK hP q14 eq14 rfl 17 (by decide) (hts (.fieldLink RX10 70 "ColdShips$World" "landings" "LColdShips$Rows;") wa_59) (fun _ h9 => h9) rfl dX10_billedOf_24 ?_
    refine lv_iload_n hx hb dX10_billedOf_27 rfl (lv_at hl 2 rfl) ?_
    refine lv_iconst (v := 4) hx hb dX10_billedOf_28 (by decide) ?_
    refine pz_calll (va_runV (As := [.int v, .int 4]) (rest := []) ⟨hx, hb, hml, hown, hts⟩ (t_X4_at l dC dI _ Ω κ τ ν ρ L f hG hT (ρ h0 17) v (4) y11 o17_x0 o17_x2 hf_o17) (cwV 2 hts gX10_billedOf_X4_at rfl rfl rfl ⟨rfl, pd_X4_at⟩ ⟨Nat.le_of_ble_eq_true rfl, Nat.le_of_ble_eq_true rfl⟩) ⟨pz_blind, va_recv hK hP (ci := 4) (q0 := q18) rfl eq18, pz_pre hP hK hD hN⟩ rfl rfl hl.1 rfl (lv_room (Nat.le_of_ble_eq_true rfl)) dX10_billedOf_29 ⟨Nat.le_of_ble_eq_true rfl, Nat.le_of_ble_eq_true rfl⟩) (fun r22 hw23 => ?_)
    obtain ⟨hw23r, hw23p⟩ := hw23
    exact W.lret (v := r22) hx hb hr (fun t ht hW => ⟨r22, rfl, ⟨trivial, trivial⟩, ht⟩) (fun _ h => by cases h) dX10_billedOf_32
  · have ic21 : r19.toInt ≠ (-1) := zl_eqf rfl rfl c21
    refine lv_lload_n hx hb dX10_billedOf_19 rfl (lv_at hl 0 rfl) ?_
    refine lv_goto (tgt := 32) hx hb dX10_billedOf_20 (by decide) ?_
    exact W.lret (v := r19) hx hb hr (fun t ht hW => ⟨r19, rfl, ⟨trivial, trivial⟩, ht⟩) (fun _ h => by cases h) dX10_billedOf_32
set_option maxHeartbeats 4000000 in
set_option maxRecDepth 100000 in
theorem t_X10_priceOf (l : Launch) (dC : Nat → ClassId) (dI : Nat → Nat → Nat) (sz : Nat) (Ω : Nat → Nat → (Nat → Nat) → va_E → Prop) (κ : Nat → ClassId) (τ ν : Nat → Nat) (ρ : Nat → Nat → Nat) (L : List Nat) (f : Nat → va_E) (hG : tp_G τ ν ρ L) (hT : tp_T Ω κ τ ν ρ f) (h0 : Nat) (v : Int32) (u : Int32) (ht_h0 : τ h0 = 11) : Met l yX10_priceOf wqX10_priceOf ({ frames := 3, cells := 0, slots := 0, locals := 800 }) (va_Pc [.ref h0, .int v, .int u] (pz_B dC dI (tp_K κ) (va_pl L f) sz)) (vp_Sl (fun r => True ∧ True)) 0 0 (fun _ => False) := by
  refine Met.ofW (cc := cX10_priceOf) (maxL := 12) (ret := some .long) (by decide) rfl ?_
  intro p e s m args below meth c s₁ B hml hv
  obtain ⟨rfl, hsz, hP, hK, hD0, hN⟩ := hv
  have hx := B.exec
  have hb := B.bytes
  have hr := B.returns
  have hts := fun (w : Cond) (h : w ∈ WALL) => atoms_spec (ws := wqX10_priceOf) B.pre w (List.mem_cons_of_mem _ h)
  have hown : s.vm.findClass RX10 = some m.cls := findClass_of_methodNamed B.named
  have hlocks := B.notSynchronized
  subst hsz
  have hD := hD0
  have hS : va_S (fun _ => True) s.heap s.heap [] := va_S.rf
  have hl := lv_entry ([.ref h0, .int v, .int u]) (n := 12) (Nat.le_of_ble_eq_true rfl)
  rw [lg_entry_eq]
  generalize (lg_sl ([.ref h0, .int v, .int u]) ++ List.replicate (12 - (lg_sl ([.ref h0, .int v, .int u])).length) Slot.unset).toArray = ls at hl ⊢
  have hl : lv_has ls 12 [(0, .ref h0), (1, .int v), (2, .int u)] := hl
  refine lv_aload_n hx hb dX10_priceOf_0 rfl (lv_at hl 0 rfl) ?_
  refine tgk_11 hG ht_h0 (fun y1 y1n y2 y2n y3 y4 y5 y6 y6m y6l y7 y7m y7l y8 y8m y8l y9 y9w y9m y9l y10 y10w y10m y10l y11 y11w y11m y11l y12 y12w y12m y12l => ?_)
  refine tpk_11 hT ht_h0 (fun o13_x0 o13_x1 o13_x2 o13_x3 o13_x4 o13_x5 o13_x6 hf_o13 ro13_0 ro13_1 ro13_2 ro13_3 => ?_)
  refine tpk_pos (tp_in hG ht_h0 (by decide)) hf_o13 (fun q14 eq14 => ?_)
  refine va_get (D := (dC, dI)) (ci := 10) (v := .ref (ρ h0 17)) (C := RX10) (T := TX10) (N := 19) hx hb hts hfX10 hown hK hP q14 eq14 rfl 17 (by decide) (hts (.fieldLink RX10 70 "ColdShips$World" "landings" "LColdShips$Rows;") wa_59) (fun _ h9 => h9) rfl dX10_priceOf_1 ?_
  refine lv_iload_n hx hb dX10_priceOf_4 rfl (lv_at hl 1 rfl) ?_
  refine lv_iconst (v := 3) hx hb dX10_priceOf_5 (by decide) ?_
  refine tgk_5 hG y11 (fun y15 y15n y16a y16b y16c => ?_)
  refine tpk_5 hT y11 (fun o17_x0 o17_x2 hf_o17 ro17_0 ro17_1 => ?_)
  refine tpk_pos (tp_in hG y11 (by decide)) hf_o17 (fun q18 eq18 => ?_)
  have ro17_0 := tp_hu ro17_0; have ro17_1 := tp_hu ro17_1
  refine pz_calll (va_runV (As := [.int v, .int 3]) (rest := []) ⟨hx, hb, hml, hown, hts⟩ (t_X4_at l dC dI _ Ω κ τ ν ρ L f hG hT (ρ h0 17) v (3) y11 o17_x0 o17_x2 hf_o17) (cwV 2 hts gX10_priceOf_X4_at rfl rfl rfl ⟨rfl, pd_X4_at⟩ ⟨Nat.le_of_ble_eq_true rfl, Nat.le_of_ble_eq_true rfl⟩) ⟨pz_blind, va_recv hK hP (ci := 4) (q0 := q18) rfl eq18, pz_pre hP hK hD hN⟩ rfl rfl hl.1 rfl (lv_room (Nat.le_of_ble_eq_true rfl)) dX10_priceOf_6 ⟨Nat.le_of_ble_eq_true rfl, Nat.le_of_ble_eq_true rfl⟩) (fun r19 hw20 => ?_)
  obtain ⟨hw20r, hw20p⟩ := hw20
  refine lv_ldc2 (own := RX10) (v := 24) hx hb hown (hts (.constantLong RX10 103 (24)) wa_1157) dX10_priceOf_9 ?_
  refine lv_ldiv hx hb dX10_priceOf_12 (by decide) ?_
  refine lv_topl (fun z21 ez21 => ?_)
  refine lv_lstore_n (lv' := [(3, .long z21), (0, .ref h0), (1, .int v), (2, .int u)]) hx hb dX10_priceOf_13 rfl hl (by decide) rfl (fun ls hl => ?_)
  refine lv_ldc2 (own := RX10) (v := (-1)) hx hb hown (hts (.constantLong RX10 91 (-1)) wa_695) dX10_priceOf_14 ?_
  refine lv_lstore (lv' := [(5, .long (-1)), (3, .long z21), (0, .ref h0), (1, .int v), (2, .int u)]) hx hb dX10_priceOf_17 hl (by decide) rfl (fun ls hl => ?_)
  refine lv_lconst (v := 0) hx hb dX10_priceOf_19 (by decide) ?_
  refine lv_lstore (lv' := [(7, .long 0), (5, .long (-1)), (3, .long z21), (0, .ref h0), (1, .int v), (2, .int u)]) hx hb dX10_priceOf_20 hl (by decide) rfl (fun ls hl => ?_)
  refine lv_iconst (v := 0) hx hb dX10_priceOf_22 (by decide) ?_
  refine lv_istore (lv' := [(9, .int 0), (7, .long 0), (5, .long (-1)), (3, .long z21), (0, .ref h0), (1, .int v), (2, .int u)]) hx hb dX10_priceOf_23 hl (by decide) rfl (fun ls hl => ?_)
  refine pz_loop (fun n0 H locs ls => ∃ w22 : Int32, ∃ w23 : Int64, ∃ w24 : Int64, n0 = (60 - (w22.toInt)).toNat ∧ (0 ≤ w22.toInt ∧ w22.toInt ≤ 60) ∧ H = s.heap ∧ locs = [] ∧ lv_has ls 12 [(9, .int w22), (7, .long w23), (5, .long w24), (3, .long z21), (0, .ref h0), (1, .int v), (2, .int u)]) ?_ _ _ _ _ ⟨0, 0, (-1), rfl, (by have : (0 : Int32).toInt = 0 := rfl; have : (0 : Int64).toInt = 0 := rfl; have : ((-1) : Int64).toInt = (-1) := rfl; omega), rfl, rfl, lv_sub hl [0, 1, 2, 3, 4, 5, 6] rfl⟩
  intro n0 H locs ls hI ih25
  refine Exists.elim hI (fun w22 hE90 => Exists.elim hE90 (fun w23 hE91 => Exists.elim hE91 (fun w24 hE92 => tn_5 hE92 (fun hn26 rw22 e92 e93 hl => ?_))))
  clear hE92 hE91 hE90 hI; subst e92; subst e93
  refine lv_iload hx hb dX10_priceOf_25 (lv_at hl 0 rfl) ?_
  refine lv_aload_n hx hb dX10_priceOf_27 rfl (lv_at hl 4 rfl) ?_
  refine va_get (D := (dC, dI)) (ci := 10) (v := .ref (ρ h0 15)) (C := RX10) (T := TX10) (N := 19) hx hb hts hfX10 hown hK hP q14 eq14 rfl 15 (by decide) (hts (.fieldLink RX10 63 "ColdShips$World" "prices" "LColdShips$Rows;") wa_57) (fun _ h9 => h9) rfl dX10_priceOf_28 ?_
  refine tgk_5 hG y9 (fun y27 y27n y28a y28b y28c => ?_)
  refine tpk_5 hT y9 (fun o29_x0 o29_x2 hf_o29 ro29_0 ro29_1 => ?_)
  refine tpk_pos (tp_in hG y9 (by decide)) hf_o29 (fun q30 eq30 => ?_)
  have ro29_1 := tp_hu ro29_1
  refine va_getN (D := (dC, dI)) (ci := 4) (v := .int o29_x2) (C := RX4) (T := TX4) (N := 3) hx hb hts hfX4 hown hK hP q30 eq30 rfl 2 (by decide) (va_Nw.use rfl (hN.1 (.fieldLinkNest RX10 105 "ColdShips$Rows" "size" "I" "ColdShips") nzw_2)) (fun _ h9 => h9) rfl dX10_priceOf_31 ?_
  refine lv_icmp_ge (tgt := 102) hx hb dX10_priceOf_34 (by decide) (fun c31 => ?_) (fun c31 => ?_)
  · have ic31 : w22.toInt ≥ o29_x2.toInt := zi_ge rfl rfl c31
    refine lv_lload hx hb dX10_priceOf_102 (lv_at hl 1 rfl) ?_
    exact W.lret (v := w23) hx hb hr (fun t ht hW => ⟨w23, rfl, ⟨trivial, trivial⟩, ht⟩) (fun _ h => by cases h) dX10_priceOf_104
  · have ic31 : w22.toInt < o29_x2.toInt := zi_gef rfl rfl c31
    refine lv_aload_n hx hb dX10_priceOf_37 rfl (lv_at hl 4 rfl) ?_
    refine va_get (D := (dC, dI)) (ci := 10) (v := .ref (ρ h0 15)) (C := RX10) (T := TX10) (N := 19) hx hb hts hfX10 hown hK hP q14 eq14 rfl 15 (by decide) (hts (.fieldLink RX10 63 "ColdShips$World" "prices" "LColdShips$Rows;") wa_57) (fun _ h9 => h9) rfl dX10_priceOf_38 ?_
    refine lv_iload hx hb dX10_priceOf_41 (lv_at hl 0 rfl) ?_
    refine lv_iconst (v := 0) hx hb dX10_priceOf_43 (by decide) ?_
    have ro29_0 := tp_hu ro29_0
    refine pz_calll (va_runV (As := [.int w22, .int 0]) (rest := []) ⟨hx, hb, hml, hown, hts⟩ (t_X4_at l dC dI _ Ω κ τ ν ρ L f hG hT (ρ h0 15) w22 (0) y9 o29_x0 o29_x2 hf_o29) (cwV 2 hts gX10_priceOf_X4_at rfl rfl rfl ⟨rfl, pd_X4_at⟩ ⟨Nat.le_of_ble_eq_true rfl, Nat.le_of_ble_eq_true rfl⟩) ⟨pz_blind, va_recv hK hP (ci := 4) (q0 := q30) rfl eq30, pz_pre hP hK hD hN⟩ rfl rfl hl.1 rfl (lv_room (Nat.le_of_ble_eq_true rfl)) dX10_priceOf_44 ⟨Nat.le_of_ble_eq_true rfl, Nat.le_of_ble_eq_true rfl⟩) (fun r32 hw33 => ?_)
    obtain ⟨hw33r, hw33p⟩ := hw33
    refine lv_lstore (lv' := [(10, .long r32), (9, .int w22), (7, .long w23), (5, .long w24), (3, .long z21), (0, .ref h0), (1, .int v), (2, .int u)]) hx hb dX10_priceOf_47 hl (by decide) rfl (fun ls hl => ?_)
    refine lv_lload hx hb dX10_priceOf_49 (lv_at hl 0 rfl) ?_
    refine lv_lload_n hx hb dX10_priceOf_51 rfl (lv_at hl 4 rfl) ?_
    refine W.lcmp hx hb dX10_priceOf_52 ?_
    refine lv_if_gt (tgt := 96) hx hb dX10_priceOf_53 (by decide) (fun c34 => ?_) (fun c34 => ?_)
    · have ic34 : r32.toInt > z21.toInt := zl_gt rfl rfl c34
      obtain ⟨z35, ez35⟩ : ∃ y : Int32, y = w22 + 1 := ⟨_, rfl⟩
      refine lv_iinc (v := z35) (lv' := [(9, .int z35), (10, .long r32), (7, .long w23), (5, .long w24), (3, .long z21), (0, .ref h0), (1, .int v), (2, .int u)]) hx hb dX10_priceOf_96 hl (k := 1) rfl (by rw [ez35]; rfl) (by decide) rfl (fun ls hl => ?_)
      have iz35 : z35.toInt = w22.toInt + 1 := zi_add ez35 rfl rfl (by omega) (by omega)
      refine lv_goto (tgt := 25) hx hb dX10_priceOf_99 (by decide) ?_
      exact ih25 _ _ _ _ (by rw [hn26]; omega) ⟨z35, w23, w24, rfl, (by omega), rfl, rfl, lv_sub hl [0, 2, 3, 4, 5, 6, 7] rfl⟩
    · have ic34 : r32.toInt ≤ z21.toInt := zl_gtf rfl rfl c34
      refine lv_lload hx hb dX10_priceOf_56 (lv_at hl 0 rfl) ?_
      refine lv_lload hx hb dX10_priceOf_58 (lv_at hl 3 rfl) ?_
      refine W.lcmp hx hb dX10_priceOf_60 ?_
      refine lv_if_lt (tgt := 96) hx hb dX10_priceOf_61 (by decide) (fun c36 => ?_) (fun c36 => ?_)
      · have ic36 : r32.toInt < w24.toInt := zl_lt rfl rfl c36
        obtain ⟨z37, ez37⟩ : ∃ y : Int32, y = w22 + 1 := ⟨_, rfl⟩
        refine lv_iinc (v := z37) (lv' := [(9, .int z37), (10, .long r32), (7, .long w23), (5, .long w24), (3, .long z21), (0, .ref h0), (1, .int v), (2, .int u)]) hx hb dX10_priceOf_96 hl (k := 1) rfl (by rw [ez37]; rfl) (by decide) rfl (fun ls hl => ?_)
        have iz37 : z37.toInt = w22.toInt + 1 := zi_add ez37 rfl rfl (by omega) (by omega)
        refine lv_goto (tgt := 25) hx hb dX10_priceOf_99 (by decide) ?_
        exact ih25 _ _ _ _ (by rw [hn26]; omega) ⟨z37, w23, w24, rfl, (by omega), rfl, rfl, lv_sub hl [0, 2, 3, 4, 5, 6, 7] rfl⟩
      · have ic36 : r32.toInt ≥ w24.toInt := zl_ltf rfl rfl c36
        refine lv_aload_n hx hb dX10_priceOf_64 rfl (lv_at hl 5 rfl) ?_
        refine va_get (D := (dC, dI)) (ci := 10) (v := .ref (ρ h0 15)) (C := RX10) (T := TX10) (N := 19) hx hb hts hfX10 hown hK hP q14 eq14 rfl 15 (by decide) (hts (.fieldLink RX10 63 "ColdShips$World" "prices" "LColdShips$Rows;") wa_57) (fun _ h9 => h9) rfl dX10_priceOf_65 ?_
        refine lv_iload hx hb dX10_priceOf_68 (lv_at hl 1 rfl) ?_
        refine lv_iconst (v := 2) hx hb dX10_priceOf_70 (by decide) ?_
        refine pz_calll (va_runV (As := [.int w22, .int 2]) (rest := []) ⟨hx, hb, hml, hown, hts⟩ (t_X4_at l dC dI _ Ω κ τ ν ρ L f hG hT (ρ h0 15) w22 (2) y9 o29_x0 o29_x2 hf_o29) (cwV 2 hts gX10_priceOf_X4_at rfl rfl rfl ⟨rfl, pd_X4_at⟩ ⟨Nat.le_of_ble_eq_true rfl, Nat.le_of_ble_eq_true rfl⟩) ⟨pz_blind, va_recv hK hP (ci := 4) (q0 := q30) rfl eq30, pz_pre hP hK hD hN⟩ rfl rfl hl.1 rfl (lv_room (Nat.le_of_ble_eq_true rfl)) dX10_priceOf_71 ⟨Nat.le_of_ble_eq_true rfl, Nat.le_of_ble_eq_true rfl⟩) (fun r38 hw39 => ?_)
        obtain ⟨hw39r, hw39p⟩ := hw39
        refine lv_iload_n hx hb dX10_priceOf_74 rfl (lv_at hl 7 rfl) ?_
        refine lv_i2l hx hb dX10_priceOf_75 rfl ?_
        refine W.lcmp hx hb dX10_priceOf_76 ?_
        refine lv_if_gt (tgt := 96) hx hb dX10_priceOf_77 (by decide) (fun c40 => ?_) (fun c40 => ?_)
        · have ic40 : r38.toInt > u.toInt := zl_gt rfl (Int32.toInt_toInt64 u) c40
          obtain ⟨z41, ez41⟩ : ∃ y : Int32, y = w22 + 1 := ⟨_, rfl⟩
          refine lv_iinc (v := z41) (lv' := [(9, .int z41), (10, .long r32), (7, .long w23), (5, .long w24), (3, .long z21), (0, .ref h0), (1, .int v), (2, .int u)]) hx hb dX10_priceOf_96 hl (k := 1) rfl (by rw [ez41]; rfl) (by decide) rfl (fun ls hl => ?_)
          have iz41 : z41.toInt = w22.toInt + 1 := zi_add ez41 rfl rfl (by omega) (by omega)
          refine lv_goto (tgt := 25) hx hb dX10_priceOf_99 (by decide) ?_
          exact ih25 _ _ _ _ (by rw [hn26]; omega) ⟨z41, w23, w24, rfl, (by omega), rfl, rfl, lv_sub hl [0, 2, 3, 4, 5, 6, 7] rfl⟩
        · have ic40 : r38.toInt ≤ u.toInt := zl_gtf rfl (Int32.toInt_toInt64 u) c40
          refine lv_lload hx hb dX10_priceOf_80 (lv_at hl 0 rfl) ?_
          refine lv_lstore (lv' := [(5, .long r32), (10, .long r32), (9, .int w22), (7, .long w23), (3, .long z21), (0, .ref h0), (1, .int v), (2, .int u)]) hx hb dX10_priceOf_82 hl (by decide) rfl (fun ls hl => ?_)
          refine lv_aload_n hx hb dX10_priceOf_84 rfl (lv_at hl 5 rfl) ?_
          refine va_get (D := (dC, dI)) (ci := 10) (v := .ref (ρ h0 15)) (C := RX10) (T := TX10) (N := 19) hx hb hts hfX10 hown hK hP q14 eq14 rfl 15 (by decide) (hts (.fieldLink RX10 63 "ColdShips$World" "prices" "LColdShips$Rows;") wa_57) (fun _ h9 => h9) rfl dX10_priceOf_85 ?_
          refine lv_iload hx hb dX10_priceOf_88 (lv_at hl 2 rfl) ?_
          refine lv_iconst (v := 1) hx hb dX10_priceOf_90 (by decide) ?_
          refine pz_calll (va_runV (As := [.int w22, .int 1]) (rest := []) ⟨hx, hb, hml, hown, hts⟩ (t_X4_at l dC dI _ Ω κ τ ν ρ L f hG hT (ρ h0 15) w22 (1) y9 o29_x0 o29_x2 hf_o29) (cwV 2 hts gX10_priceOf_X4_at rfl rfl rfl ⟨rfl, pd_X4_at⟩ ⟨Nat.le_of_ble_eq_true rfl, Nat.le_of_ble_eq_true rfl⟩) ⟨pz_blind, va_recv hK hP (ci := 4) (q0 := q30) rfl eq30, pz_pre hP hK hD hN⟩ rfl rfl hl.1 rfl (lv_room (Nat.le_of_ble_eq_true rfl)) dX10_priceOf_91 ⟨Nat.le_of_ble_eq_true rfl, Nat.le_of_ble_eq_true rfl⟩) (fun r42 hw43 => ?_)
          obtain ⟨hw43r, hw43p⟩ := hw43
          refine lv_lstore (lv' := [(7, .long r42), (5, .long r32), (10, .long r32), (9, .int w22), (3, .long z21), (0, .ref h0), (1, .int v), (2, .int u)]) hx hb dX10_priceOf_94 hl (by decide) rfl (fun ls hl => ?_)
          obtain ⟨z44, ez44⟩ : ∃ y : Int32, y = w22 + 1 := ⟨_, rfl⟩
          refine lv_iinc (v := z44) (lv' := [(9, .int z44), (7, .long r42), (5, .long r32), (10, .long r32), (3, .long z21), (0, .ref h0), (1, .int v), (2, .int u)]) hx hb dX10_priceOf_96 hl (k := 3) rfl (by rw [ez44]; rfl) (by decide) rfl (fun ls hl => ?_)
          have iz44 : z44.toInt = w22.toInt + 1 := zi_add ez44 rfl rfl (by omega) (by omega)
          refine lv_goto (tgt := 25) hx hb dX10_priceOf_99 (by decide) ?_
          exact ih25 _ _ _ _ (by rw [hn26]; omega) ⟨z44, r42, r32, rfl, (by omega), rfl, rfl, lv_sub hl [0, 1, 2, 4, 5, 6, 7] rfl⟩
set_option maxHeartbeats 4000000 in
set_option maxRecDepth 100000 in
theorem t_X10_copyFrom (l : Launch) (dC : Nat → ClassId) (dI : Nat → Nat → Nat) (sz : Nat) (Ω : Nat → Nat → (Nat → Nat) → va_E → Prop) (κ : Nat → ClassId) (τ ν : Nat → Nat) (ρ : Nat → Nat → Nat) (L : List Nat) (f : Nat → va_E) (hG : tp_G τ ν ρ L) (hT : tp_T Ω κ τ ν ρ f) (h0 : Nat) (h1 : Nat) (ht_h0 : τ h0 = 11) (ht_h1 : τ h1 = 11) (hne : ρ h0 30 + 18 < ρ h1 30 ∨ ρ h1 30 + 18 < ρ h0 30) : Met l yX10_copyFrom wqX10_copyFrom ({ frames := 4, cells := 0, slots := 0, locals := 1200 }) (va_Pc [.ref h0, .ref h1] (pz_B dC dI (tp_K κ) (va_pl L f) sz)) (va_Qv (fun (f1 : Nat → va_E) => tp_T Ω κ τ ν ρ f1 ∧ tp_F τ [5, 6, 7, 8, 9, 11, 20, 21, 26] f f1 ∧ tp_X τ ρ (fun n => (ρ h0 30 ≤ n ∧ n ≤ ρ h0 30 + 18)) f f1 ∧ ((tp_fld (f1 h0) 0) = (tp_fld (f h1) 0)) ∧ ((tp_fld (f1 h0) 1) = (tp_fld (f h1) 1)) ∧ ((tp_fld (f1 h0) 2) = (tp_fld (f h1) 2)) ∧ ((tp_fld (f1 h0) 3) = (tp_fld (f h1) 3)) ∧ ((tp_fld (f1 h0) 4) = (tp_fld (f h1) 4)) ∧ ((tp_fld (f1 h0) 5) = (tp_fld (f h1) 5)) ∧ ((tp_fld (f1 h0) 6) = (tp_fld (f h1) 6)) ∧ ((tp_fld (f1 (ρ h0 12)) 3) = (tp_fld (f (ρ h1 12)) 3)) ∧ ((tp_fld (f1 (ρ h0 13)) 3) = (tp_fld (f (ρ h1 13)) 3)) ∧ ((tp_fld (f1 (ρ h0 14)) 3) = (tp_fld (f (ρ h1 14)) 3)) ∧ ((tp_fld (f1 (ρ h0 15)) 2) = (tp_fld (f (ρ h1 15)) 2)) ∧ ((tp_fld (f1 (ρ h0 16)) 2) = (tp_fld (f (ρ h1 16)) 2)) ∧ ((tp_fld (f1 (ρ h0 17)) 2) = (tp_fld (f (ρ h1 17)) 2)) ∧ ((tp_fld (f1 (ρ h0 18)) 2) = (tp_fld (f (ρ h1 18)) 2))) (fun (f1 : Nat → va_E) (t : State) => pz_E dC dI (tp_K κ) (va_A (va_pl L f) sz) (va_pl L f1) t) (va_A (va_pl L f) sz)) 0 0 (va_A (va_pl L f) sz) := by
  refine Met.ofW (cc := cX10_copyFrom) (maxL := 3) (ret := none) (by decide) rfl ?_
  intro p e s m args below meth c s₁ B hml hv
  obtain ⟨rfl, hsz, hP, hK, hD0, hN⟩ := hv
  have hx := B.exec
  have hb := B.bytes
  have hr := B.returns
  have hts := fun (w : Cond) (h : w ∈ WALL) => atoms_spec (ws := wqX10_copyFrom) B.pre w (List.mem_cons_of_mem _ h)
  have hown : s.vm.findClass RX10 = some m.cls := findClass_of_methodNamed B.named
  have hlocks := B.notSynchronized
  subst hsz
  have hD := hD0.self (sz := s.heap.size)
  generalize hAe : va_A (va_pl L f) s.heap.size = A at hD ⊢
  have hA : ∀ q : Nat, s.heap.size ≤ q → A q := fun q h => by rw [← hAe]; exact Or.inr h
  have hS : va_S A s.heap s.heap [] := va_S.rf
  have hR : tp_F τ [5, 6, 7, 8, 9, 11, 20, 21, 26] f f := tp_F.rf
  have hX : tp_X τ ρ (fun n => (ρ h0 30 ≤ n ∧ n ≤ ρ h0 30 + 18)) f f := tp_X.rf
  have hl := lv_entry ([.ref h0, .ref h1]) (n := 3) (Nat.le_of_ble_eq_true rfl)
  rw [lg_entry_eq]
  generalize (lg_sl ([.ref h0, .ref h1]) ++ List.replicate (3 - (lg_sl ([.ref h0, .ref h1])).length) Slot.unset).toArray = ls at hl ⊢
  have hl : lv_has ls 3 [(0, .ref h0), (1, .ref h1)] := hl
  refine tgk_11 hG ht_h0 (fun y1 y1n y2 y2n y3 y4 y5 y6 y6m y6l y7 y7m y7l y8 y8m y8l y9 y9w y9m y9l y10 y10w y10m y10l y11 y11w y11m y11l y12 y12w y12m y12l => ?_)
  refine tpk_11 hT ht_h0 (fun o13_x0 o13_x1 o13_x2 o13_x3 o13_x4 o13_x5 o13_x6 hf_o13 ro13_0 ro13_1 ro13_2 ro13_3 => ?_)
  refine tgk_11 hG ht_h1 (fun y14 y14n y15 y15n y16 y17 y18 y19 y19m y19l y20 y20m y20l y21 y21m y21l y22 y22w y22m y22l y23 y23w y23m y23l y24 y24w y24m y24l y25 y25w y25m y25l => ?_)
  refine tpk_11 hT ht_h1 (fun o26_x0 o26_x1 o26_x2 o26_x3 o26_x4 o26_x5 o26_x6 hf_o26 ro26_0 ro26_1 ro26_2 ro26_3 => ?_)
  refine tgk_7 hG y19 (fun y27 y27n y28 y28n y29 y29n y30a y30b => ?_)
  refine tpk_7 hT y19 (fun o31_x3 hf_o31 ro31_0 => ?_)
  refine tgk_7 hG y20 (fun y32 y32n y33 y33n y34 y34n y35a y35b => ?_)
  refine tpk_7 hT y20 (fun o36_x3 hf_o36 ro36_0 => ?_)
  refine tgk_7 hG y21 (fun y37 y37n y38 y38n y39 y39n y40a y40b => ?_)
  refine tpk_7 hT y21 (fun o41_x3 hf_o41 ro41_0 => ?_)
  refine tgk_5 hG y22 (fun y42 y42n y43a y43b y43c => ?_)
  refine tpk_5 hT y22 (fun o44_x0 o44_x2 hf_o44 ro44_0 ro44_1 => ?_)
  refine tgk_5 hG y23 (fun y45 y45n y46a y46b y46c => ?_)
  refine tpk_5 hT y23 (fun o47_x0 o47_x2 hf_o47 ro47_0 ro47_1 => ?_)
  refine tgk_5 hG y24 (fun y48 y48n y49a y49b y49c => ?_)
  refine tpk_5 hT y24 (fun o50_x0 o50_x2 hf_o50 ro50_0 ro50_1 => ?_)
  refine tgk_5 hG y25 (fun y51 y51n y52a y52b y52c => ?_)
  refine tpk_5 hT y25 (fun o53_x0 o53_x2 hf_o53 ro53_0 ro53_1 => ?_)
  refine lv_aload_n hx hb dX10_copyFrom_0 rfl (lv_at hl 0 rfl) ?_
  refine lv_aload_n hx hb dX10_copyFrom_1 rfl (lv_at hl 1 rfl) ?_
  refine tpk_pos (tp_in hG ht_h1 (by decide)) hf_o26 (fun q54 eq54 => ?_)
  have ro26_0 := tp_hu ro26_0
  refine va_get (D := (dC, dI)) (ci := 10) (v := .int o26_x0) (C := RX10) (T := TX10) (N := 19) hx hb hts hfX10 hown hK hP q54 eq54 rfl 0 (by decide) (hts (.fieldLink RX10 108 "ColdShips$World" "now" "I") wa_1495) (fun _ h9 => h9) rfl dX10_copyFrom_2 ?_
  refine tpk_pos (tp_in hG ht_h0 (by decide)) hf_o13 (fun q55 eq55 => ?_)
  refine va_put (D := (dC, dI)) (ci := 10) (v := .int o26_x0) (ty := .int) (C := RX10) (T := TX10) (N := 19) hx hb hts hfX10 tyX10 tyX10_ok nmX10 hown hK hP hD hS q55 eq55 rfl 0 (by decide) (hts (.fieldLink RX10 108 "ColdShips$World" "now" "I") wa_1495) (fun _ h9 => h9) rfl (tyX10_ok 0 (by decide)) rfl rfl (Nat.le_of_ble_eq_true rfl) dX10_copyFrom_5 (tp_k (.inr (10, [.int o26_x0, .int o13_x1, .int o13_x2, .int o13_x3, .int o13_x4, .int o13_x5, .int o13_x6, .ref (ρ h0 7), .ref (ρ h0 8), .ref (ρ h0 9), .ref (ρ h0 10), .ref (ρ h0 11), .ref (ρ h0 12), .ref (ρ h0 13), .ref (ρ h0 14), .ref (ρ h0 15), .ref (ρ h0 16), .ref (ρ h0 17), .ref (ρ h0 18)])) hD (tp_in hG ht_h0 (by decide)) eq55 (fun f56 H locs hP hD hS g58 k57 => ?_))
  have hT := hT.up ht_h0 g58 k57 ⟨_, _, _, _, _, _, _, rfl, ro26_0, ro13_1, ro13_2, ro13_3⟩
  have hR := hR.up ht_h0 (by decide) k57
  have hX := hX.up k57 (Or.inr (by show (ρ h0 30 ≤ (ρ h0 30) ∧ (ρ h0 30) ≤ ρ h0 30 + 18); omega))
  refine lv_aload_n hx hb dX10_copyFrom_8 rfl (lv_at hl 0 rfl) ?_
  refine lv_aload_n hx hb dX10_copyFrom_9 rfl (lv_at hl 1 rfl) ?_
  have hf_59 : f56 h1 = .inr (10, [.int o26_x0, .int o26_x1, .int o26_x2, .int o26_x3, .int o26_x4, .int o26_x5, .int o26_x6, .ref (ρ h1 7), .ref (ρ h1 8), .ref (ρ h1 9), .ref (ρ h1 10), .ref (ρ h1 11), .ref (ρ h1 12), .ref (ρ h1 13), .ref (ρ h1 14), .ref (ρ h1 15), .ref (ρ h1 16), .ref (ρ h1 17), .ref (ρ h1 18)]) := (k57 _ (fun z9 => by have q9 : ρ h1 30 = ρ h0 30 := congrArg (fun q => ρ q 30) z9; omega)).trans hf_o26
  refine tpk_pos (tp_in hG ht_h1 (by decide)) hf_59 (fun q60 eq60 => ?_)
  refine va_get (D := (dC, dI)) (ci := 10) (v := .int o26_x1) (C := RX10) (T := TX10) (N := 19) hx hb hts hfX10 hown hK hP q60 eq60 rfl 1 (by decide) (hts (.fieldLink RX10 9 "ColdShips$World" "boils" "I") wa_37) (fun _ h9 => h9) rfl dX10_copyFrom_10 ?_
  refine tpk_pos (tp_in hG ht_h0 (by decide)) g58 (fun q61 eq61 => ?_)
  refine va_put (D := (dC, dI)) (ci := 10) (v := .int o26_x1) (ty := .int) (C := RX10) (T := TX10) (N := 19) hx hb hts hfX10 tyX10 tyX10_ok nmX10 hown hK hP hD hS q61 eq61 rfl 1 (by decide) (hts (.fieldLink RX10 9 "ColdShips$World" "boils" "I") wa_37) (fun _ h9 => h9) rfl (tyX10_ok 1 (by decide)) rfl rfl (Nat.le_of_ble_eq_true rfl) dX10_copyFrom_13 (tp_k (.inr (10, [.int o26_x0, .int o26_x1, .int o13_x2, .int o13_x3, .int o13_x4, .int o13_x5, .int o13_x6, .ref (ρ h0 7), .ref (ρ h0 8), .ref (ρ h0 9), .ref (ρ h0 10), .ref (ρ h0 11), .ref (ρ h0 12), .ref (ρ h0 13), .ref (ρ h0 14), .ref (ρ h0 15), .ref (ρ h0 16), .ref (ρ h0 17), .ref (ρ h0 18)])) hD (tp_in hG ht_h0 (by decide)) eq61 (fun f62 H locs hP hD hS g64 k63 => ?_))
  have hT := hT.up ht_h0 g64 k63 ⟨_, _, _, _, _, _, _, rfl, ro26_0, ro13_1, ro13_2, ro13_3⟩
  have hR := hR.up ht_h0 (by decide) k63
  have hX := hX.up k63 (Or.inr (by show (ρ h0 30 ≤ (ρ h0 30) ∧ (ρ h0 30) ≤ ρ h0 30 + 18); omega))
  refine lv_aload_n hx hb dX10_copyFrom_16 rfl (lv_at hl 0 rfl) ?_
  refine lv_aload_n hx hb dX10_copyFrom_17 rfl (lv_at hl 1 rfl) ?_
  have hf_65 : f62 h1 = .inr (10, [.int o26_x0, .int o26_x1, .int o26_x2, .int o26_x3, .int o26_x4, .int o26_x5, .int o26_x6, .ref (ρ h1 7), .ref (ρ h1 8), .ref (ρ h1 9), .ref (ρ h1 10), .ref (ρ h1 11), .ref (ρ h1 12), .ref (ρ h1 13), .ref (ρ h1 14), .ref (ρ h1 15), .ref (ρ h1 16), .ref (ρ h1 17), .ref (ρ h1 18)]) := (k63 _ (fun z9 => by have q9 : ρ h1 30 = ρ h0 30 := congrArg (fun q => ρ q 30) z9; omega)).trans hf_59
  refine tpk_pos (tp_in hG ht_h1 (by decide)) hf_65 (fun q66 eq66 => ?_)
  refine va_get (D := (dC, dI)) (ci := 10) (v := .int o26_x2) (C := RX10) (T := TX10) (N := 19) hx hb hts hfX10 hown hK hP q66 eq66 rfl 2 (by decide) (hts (.fieldLink RX10 15 "ColdShips$World" "limit" "I") wa_38) (fun _ h9 => h9) rfl dX10_copyFrom_18 ?_
  refine tpk_pos (tp_in hG ht_h0 (by decide)) g64 (fun q67 eq67 => ?_)
  refine va_put (D := (dC, dI)) (ci := 10) (v := .int o26_x2) (ty := .int) (C := RX10) (T := TX10) (N := 19) hx hb hts hfX10 tyX10 tyX10_ok nmX10 hown hK hP hD hS q67 eq67 rfl 2 (by decide) (hts (.fieldLink RX10 15 "ColdShips$World" "limit" "I") wa_38) (fun _ h9 => h9) rfl (tyX10_ok 2 (by decide)) rfl rfl (Nat.le_of_ble_eq_true rfl) dX10_copyFrom_21 (tp_k (.inr (10, [.int o26_x0, .int o26_x1, .int o26_x2, .int o13_x3, .int o13_x4, .int o13_x5, .int o13_x6, .ref (ρ h0 7), .ref (ρ h0 8), .ref (ρ h0 9), .ref (ρ h0 10), .ref (ρ h0 11), .ref (ρ h0 12), .ref (ρ h0 13), .ref (ρ h0 14), .ref (ρ h0 15), .ref (ρ h0 16), .ref (ρ h0 17), .ref (ρ h0 18)])) hD (tp_in hG ht_h0 (by decide)) eq67 (fun f68 H locs hP hD hS g70 k69 => ?_))
  have hT := hT.up ht_h0 g70 k69 ⟨_, _, _, _, _, _, _, rfl, ro26_0, ro13_1, ro13_2, ro13_3⟩
  have hR := hR.up ht_h0 (by decide) k69
  have hX := hX.up k69 (Or.inr (by show (ρ h0 30 ≤ (ρ h0 30) ∧ (ρ h0 30) ≤ ρ h0 30 + 18); omega))
  refine lv_aload_n hx hb dX10_copyFrom_24 rfl (lv_at hl 0 rfl) ?_
  refine lv_aload_n hx hb dX10_copyFrom_25 rfl (lv_at hl 1 rfl) ?_
  have hf_71 : f68 h1 = .inr (10, [.int o26_x0, .int o26_x1, .int o26_x2, .int o26_x3, .int o26_x4, .int o26_x5, .int o26_x6, .ref (ρ h1 7), .ref (ρ h1 8), .ref (ρ h1 9), .ref (ρ h1 10), .ref (ρ h1 11), .ref (ρ h1 12), .ref (ρ h1 13), .ref (ρ h1 14), .ref (ρ h1 15), .ref (ρ h1 16), .ref (ρ h1 17), .ref (ρ h1 18)]) := (k69 _ (fun z9 => by have q9 : ρ h1 30 = ρ h0 30 := congrArg (fun q => ρ q 30) z9; omega)).trans hf_65
  refine tpk_pos (tp_in hG ht_h1 (by decide)) hf_71 (fun q72 eq72 => ?_)
  refine va_get (D := (dC, dI)) (ci := 10) (v := .int o26_x3) (C := RX10) (T := TX10) (N := 19) hx hb hts hfX10 hown hK hP q72 eq72 rfl 3 (by decide) (hts (.fieldLink RX10 111 "ColdShips$World" "ordersGiven" "I") wa_1496) (fun _ h9 => h9) rfl dX10_copyFrom_26 ?_
  refine tpk_pos (tp_in hG ht_h0 (by decide)) g70 (fun q73 eq73 => ?_)
  refine va_put (D := (dC, dI)) (ci := 10) (v := .int o26_x3) (ty := .int) (C := RX10) (T := TX10) (N := 19) hx hb hts hfX10 tyX10 tyX10_ok nmX10 hown hK hP hD hS q73 eq73 rfl 3 (by decide) (hts (.fieldLink RX10 111 "ColdShips$World" "ordersGiven" "I") wa_1496) (fun _ h9 => h9) rfl (tyX10_ok 3 (by decide)) rfl rfl (Nat.le_of_ble_eq_true rfl) dX10_copyFrom_29 (tp_k (.inr (10, [.int o26_x0, .int o26_x1, .int o26_x2, .int o26_x3, .int o13_x4, .int o13_x5, .int o13_x6, .ref (ρ h0 7), .ref (ρ h0 8), .ref (ρ h0 9), .ref (ρ h0 10), .ref (ρ h0 11), .ref (ρ h0 12), .ref (ρ h0 13), .ref (ρ h0 14), .ref (ρ h0 15), .ref (ρ h0 16), .ref (ρ h0 17), .ref (ρ h0 18)])) hD (tp_in hG ht_h0 (by decide)) eq73 (fun f74 H locs hP hD hS g76 k75 => ?_))
  have hT := hT.up ht_h0 g76 k75 ⟨_, _, _, _, _, _, _, rfl, ro26_0, ro13_1, ro13_2, ro13_3⟩
  have hR := hR.up ht_h0 (by decide) k75
  have hX := hX.up k75 (Or.inr (by show (ρ h0 30 ≤ (ρ h0 30) ∧ (ρ h0 30) ≤ ρ h0 30 + 18); omega))
  refine lv_aload_n hx hb dX10_copyFrom_32 rfl (lv_at hl 0 rfl) ?_
  refine lv_aload_n hx hb dX10_copyFrom_33 rfl (lv_at hl 1 rfl) ?_
  have hf_77 : f74 h1 = .inr (10, [.int o26_x0, .int o26_x1, .int o26_x2, .int o26_x3, .int o26_x4, .int o26_x5, .int o26_x6, .ref (ρ h1 7), .ref (ρ h1 8), .ref (ρ h1 9), .ref (ρ h1 10), .ref (ρ h1 11), .ref (ρ h1 12), .ref (ρ h1 13), .ref (ρ h1 14), .ref (ρ h1 15), .ref (ρ h1 16), .ref (ρ h1 17), .ref (ρ h1 18)]) := (k75 _ (fun z9 => by have q9 : ρ h1 30 = ρ h0 30 := congrArg (fun q => ρ q 30) z9; omega)).trans hf_71
  refine tpk_pos (tp_in hG ht_h1 (by decide)) hf_77 (fun q78 eq78 => ?_)
  have ro26_1 := tp_hu ro26_1
  refine va_get (D := (dC, dI)) (ci := 10) (v := .int o26_x4) (C := RX10) (T := TX10) (N := 19) hx hb hts hfX10 hown hK hP q78 eq78 rfl 4 (by decide) (hts (.fieldLink RX10 78 "ColdShips$World" "terminalCount" "I") wa_237) (fun _ h9 => h9) rfl dX10_copyFrom_34 ?_
  refine tpk_pos (tp_in hG ht_h0 (by decide)) g76 (fun q79 eq79 => ?_)
  refine va_put (D := (dC, dI)) (ci := 10) (v := .int o26_x4) (ty := .int) (C := RX10) (T := TX10) (N := 19) hx hb hts hfX10 tyX10 tyX10_ok nmX10 hown hK hP hD hS q79 eq79 rfl 4 (by decide) (hts (.fieldLink RX10 78 "ColdShips$World" "terminalCount" "I") wa_237) (fun _ h9 => h9) rfl (tyX10_ok 4 (by decide)) rfl rfl (Nat.le_of_ble_eq_true rfl) dX10_copyFrom_37 (tp_k (.inr (10, [.int o26_x0, .int o26_x1, .int o26_x2, .int o26_x3, .int o26_x4, .int o13_x5, .int o13_x6, .ref (ρ h0 7), .ref (ρ h0 8), .ref (ρ h0 9), .ref (ρ h0 10), .ref (ρ h0 11), .ref (ρ h0 12), .ref (ρ h0 13), .ref (ρ h0 14), .ref (ρ h0 15), .ref (ρ h0 16), .ref (ρ h0 17), .ref (ρ h0 18)])) hD (tp_in hG ht_h0 (by decide)) eq79 (fun f80 H locs hP hD hS g82 k81 => ?_))
  have hT := hT.up ht_h0 g82 k81 ⟨_, _, _, _, _, _, _, rfl, ro26_0, ro26_1, ro13_2, ro13_3⟩
  have hR := hR.up ht_h0 (by decide) k81
  have hX := hX.up k81 (Or.inr (by show (ρ h0 30 ≤ (ρ h0 30) ∧ (ρ h0 30) ≤ ρ h0 30 + 18); omega))
  refine lv_aload_n hx hb dX10_copyFrom_40 rfl (lv_at hl 0 rfl) ?_
  refine lv_aload_n hx hb dX10_copyFrom_41 rfl (lv_at hl 1 rfl) ?_
  have hf_83 : f80 h1 = .inr (10, [.int o26_x0, .int o26_x1, .int o26_x2, .int o26_x3, .int o26_x4, .int o26_x5, .int o26_x6, .ref (ρ h1 7), .ref (ρ h1 8), .ref (ρ h1 9), .ref (ρ h1 10), .ref (ρ h1 11), .ref (ρ h1 12), .ref (ρ h1 13), .ref (ρ h1 14), .ref (ρ h1 15), .ref (ρ h1 16), .ref (ρ h1 17), .ref (ρ h1 18)]) := (k81 _ (fun z9 => by have q9 : ρ h1 30 = ρ h0 30 := congrArg (fun q => ρ q 30) z9; omega)).trans hf_77
  refine tpk_pos (tp_in hG ht_h1 (by decide)) hf_83 (fun q84 eq84 => ?_)
  have ro26_2 := tp_hu ro26_2
  refine va_get (D := (dC, dI)) (ci := 10) (v := .int o26_x5) (C := RX10) (T := TX10) (N := 19) hx hb hts hfX10 hown hK hP q84 eq84 rfl 5 (by decide) (hts (.fieldLink RX10 81 "ColdShips$World" "shipCount" "I") wa_330) (fun _ h9 => h9) rfl dX10_copyFrom_42 ?_
  refine tpk_pos (tp_in hG ht_h0 (by decide)) g82 (fun q85 eq85 => ?_)
  refine va_put (D := (dC, dI)) (ci := 10) (v := .int o26_x5) (ty := .int) (C := RX10) (T := TX10) (N := 19) hx hb hts hfX10 tyX10 tyX10_ok nmX10 hown hK hP hD hS q85 eq85 rfl 5 (by decide) (hts (.fieldLink RX10 81 "ColdShips$World" "shipCount" "I") wa_330) (fun _ h9 => h9) rfl (tyX10_ok 5 (by decide)) rfl rfl (Nat.le_of_ble_eq_true rfl) dX10_copyFrom_45 (tp_k (.inr (10, [.int o26_x0, .int o26_x1, .int o26_x2, .int o26_x3, .int o26_x4, .int o26_x5, .int o13_x6, .ref (ρ h0 7), .ref (ρ h0 8), .ref (ρ h0 9), .ref (ρ h0 10), .ref (ρ h0 11), .ref (ρ h0 12), .ref (ρ h0 13), .ref (ρ h0 14), .ref (ρ h0 15), .ref (ρ h0 16), .ref (ρ h0 17), .ref (ρ h0 18)])) hD (tp_in hG ht_h0 (by decide)) eq85 (fun f86 H locs hP hD hS g88 k87 => ?_))
  have hT := hT.up ht_h0 g88 k87 ⟨_, _, _, _, _, _, _, rfl, ro26_0, ro26_1, ro26_2, ro13_3⟩
  have hR := hR.up ht_h0 (by decide) k87
  have hX := hX.up k87 (Or.inr (by show (ρ h0 30 ≤ (ρ h0 30) ∧ (ρ h0 30) ≤ ρ h0 30 + 18); omega))
  refine lv_aload_n hx hb dX10_copyFrom_48 rfl (lv_at hl 0 rfl) ?_
  refine lv_aload_n hx hb dX10_copyFrom_49 rfl (lv_at hl 1 rfl) ?_
  have hf_89 : f86 h1 = .inr (10, [.int o26_x0, .int o26_x1, .int o26_x2, .int o26_x3, .int o26_x4, .int o26_x5, .int o26_x6, .ref (ρ h1 7), .ref (ρ h1 8), .ref (ρ h1 9), .ref (ρ h1 10), .ref (ρ h1 11), .ref (ρ h1 12), .ref (ρ h1 13), .ref (ρ h1 14), .ref (ρ h1 15), .ref (ρ h1 16), .ref (ρ h1 17), .ref (ρ h1 18)]) := (k87 _ (fun z9 => by have q9 : ρ h1 30 = ρ h0 30 := congrArg (fun q => ρ q 30) z9; omega)).trans hf_83
  refine tpk_pos (tp_in hG ht_h1 (by decide)) hf_89 (fun q90 eq90 => ?_)
  have ro26_3 := tp_hu ro26_3
  refine va_get (D := (dC, dI)) (ci := 10) (v := .int o26_x6) (C := RX10) (T := TX10) (N := 19) hx hb hts hfX10 hown hK hP q90 eq90 rfl 6 (by decide) (hts (.fieldLink RX10 84 "ColdShips$World" "contractCount" "I") wa_1129) (fun _ h9 => h9) rfl dX10_copyFrom_50 ?_
  refine tpk_pos (tp_in hG ht_h0 (by decide)) g88 (fun q91 eq91 => ?_)
  refine va_put (D := (dC, dI)) (ci := 10) (v := .int o26_x6) (ty := .int) (C := RX10) (T := TX10) (N := 19) hx hb hts hfX10 tyX10 tyX10_ok nmX10 hown hK hP hD hS q91 eq91 rfl 6 (by decide) (hts (.fieldLink RX10 84 "ColdShips$World" "contractCount" "I") wa_1129) (fun _ h9 => h9) rfl (tyX10_ok 6 (by decide)) rfl rfl (Nat.le_of_ble_eq_true rfl) dX10_copyFrom_53 (tp_k (.inr (10, [.int o26_x0, .int o26_x1, .int o26_x2, .int o26_x3, .int o26_x4, .int o26_x5, .int o26_x6, .ref (ρ h0 7), .ref (ρ h0 8), .ref (ρ h0 9), .ref (ρ h0 10), .ref (ρ h0 11), .ref (ρ h0 12), .ref (ρ h0 13), .ref (ρ h0 14), .ref (ρ h0 15), .ref (ρ h0 16), .ref (ρ h0 17), .ref (ρ h0 18)])) hD (tp_in hG ht_h0 (by decide)) eq91 (fun f92 H locs hP hD hS g94 k93 => ?_))
  have hT := hT.up ht_h0 g94 k93 ⟨_, _, _, _, _, _, _, rfl, ro26_0, ro26_1, ro26_2, ro26_3⟩
  have hR := hR.up ht_h0 (by decide) k93
  have hX := hX.up k93 (Or.inr (by show (ρ h0 30 ≤ (ρ h0 30) ∧ (ρ h0 30) ≤ ρ h0 30 + 18); omega))
  refine lv_aload_n hx hb dX10_copyFrom_56 rfl (lv_at hl 1 rfl) ?_
  have hf_95 : f92 h1 = .inr (10, [.int o26_x0, .int o26_x1, .int o26_x2, .int o26_x3, .int o26_x4, .int o26_x5, .int o26_x6, .ref (ρ h1 7), .ref (ρ h1 8), .ref (ρ h1 9), .ref (ρ h1 10), .ref (ρ h1 11), .ref (ρ h1 12), .ref (ρ h1 13), .ref (ρ h1 14), .ref (ρ h1 15), .ref (ρ h1 16), .ref (ρ h1 17), .ref (ρ h1 18)]) := (k93 _ (fun z9 => by have q9 : ρ h1 30 = ρ h0 30 := congrArg (fun q => ρ q 30) z9; omega)).trans hf_89
  refine tpk_pos (tp_in hG ht_h1 (by decide)) hf_95 (fun q96 eq96 => ?_)
  refine va_get (D := (dC, dI)) (ci := 10) (v := .ref (ρ h1 7)) (C := RX10) (T := TX10) (N := 19) hx hb hts hfX10 hown hK hP q96 eq96 rfl 7 (by decide) (hts (.fieldLink RX10 18 "ColdShips$World" "tides" "[I") wa_40) (fun _ h9 => h9) rfl dX10_copyFrom_57 ?_
  refine lv_iconst (v := 0) hx hb dX10_copyFrom_60 (by decide) ?_
  refine lv_aload_n hx hb dX10_copyFrom_61 rfl (lv_at hl 0 rfl) ?_
  refine tpk_pos (tp_in hG ht_h0 (by decide)) g94 (fun q97 eq97 => ?_)
  refine va_get (D := (dC, dI)) (ci := 10) (v := .ref (ρ h0 7)) (C := RX10) (T := TX10) (N := 19) hx hb hts hfX10 hown hK hP q97 eq97 rfl 7 (by decide) (hts (.fieldLink RX10 18 "ColdShips$World" "tides" "[I") wa_40) (fun _ h9 => h9) rfl dX10_copyFrom_62 ?_
  refine lv_iconst (v := 0) hx hb dX10_copyFrom_65 (by decide) ?_
  refine lv_bipush (v := 25) hx hb dX10_copyFrom_66 (by decide) ?_
  refine tpk_20 hT y14 y14n (fun g99 hf_o98 => ?_)
  refine tpk_20 hT y1 y1n (fun g101 hf_o100 => ?_)
  refine tpk_pos (tp_in hG y14 (by decide)) hf_o98 (fun q102 eq102 => ?_)
  refine tpk_pos (tp_in hG y1 (by decide)) hf_o100 (fun q103 eq103 => ?_)
  refine va_copyi hx hb (by rw [hml]; exact hl.1.symm) hown (hts (.methodLink RX10 114 arraycopyName) wa_1497) (hts (.native arraycopyName) wa_465) (hts (.static arraycopyName) wa_466) (hts (.initialized "java/lang/System") wa_467) hK hP hD hS q102 q103 0 0 eq102 eq103 rfl rfl rfl (by decide) (by decide) (by decide) (by decide) (by decide) (fun _ _ => rfl) (Nat.le_of_ble_eq_true rfl) (Nat.le_of_ble_eq_true rfl) dX10_copyFrom_68 (tp_k (.inl (κ 0, 25, .inl (va_cpy g99 g101 (0 : Int32).toNatClampNeg (0 : Int32).toNatClampNeg (25 : Int32).toNatClampNeg))) hD (tp_in hG y1 (by decide)) eq103 (fun f104 H locs hP hD hS g106 k105 => ?_))
  have hT := hT.up y1 g106 k105 (tp_o20 y1n)
  have hR := hR.up y1 (by decide) k105
  have hX := hX.up k105 (Or.inl (by rw [tp_iu y1]; decide))
  generalize (va_cpy g99 g101 (0 : Int32).toNatClampNeg (0 : Int32).toNatClampNeg (25 : Int32).toNatClampNeg) = g107 at g106
  refine lv_aload_n hx hb dX10_copyFrom_71 rfl (lv_at hl 1 rfl) ?_
  have hf_108 : f104 h1 = .inr (10, [.int o26_x0, .int o26_x1, .int o26_x2, .int o26_x3, .int o26_x4, .int o26_x5, .int o26_x6, .ref (ρ h1 7), .ref (ρ h1 8), .ref (ρ h1 9), .ref (ρ h1 10), .ref (ρ h1 11), .ref (ρ h1 12), .ref (ρ h1 13), .ref (ρ h1 14), .ref (ρ h1 15), .ref (ρ h1 16), .ref (ρ h1 17), .ref (ρ h1 18)]) := (k105 _ (tp_ne ht_h1 y1 (by decide))).trans hf_95
  refine tpk_pos (tp_in hG ht_h1 (by decide)) hf_108 (fun q109 eq109 => ?_)
  refine va_get (D := (dC, dI)) (ci := 10) (v := .ref (ρ h1 8)) (C := RX10) (T := TX10) (N := 19) hx hb hts hfX10 hown hK hP q109 eq109 rfl 8 (by decide) (hts (.fieldLink RX10 22 "ColdShips$World" "seas" "[I") wa_41) (fun _ h9 => h9) rfl dX10_copyFrom_72 ?_
  refine lv_iconst (v := 0) hx hb dX10_copyFrom_75 (by decide) ?_
  refine lv_aload_n hx hb dX10_copyFrom_76 rfl (lv_at hl 0 rfl) ?_
  have hf_110 : f104 h0 = .inr (10, [.int o26_x0, .int o26_x1, .int o26_x2, .int o26_x3, .int o26_x4, .int o26_x5, .int o26_x6, .ref (ρ h0 7), .ref (ρ h0 8), .ref (ρ h0 9), .ref (ρ h0 10), .ref (ρ h0 11), .ref (ρ h0 12), .ref (ρ h0 13), .ref (ρ h0 14), .ref (ρ h0 15), .ref (ρ h0 16), .ref (ρ h0 17), .ref (ρ h0 18)]) := (k105 _ (tp_ne ht_h0 y1 (by decide))).trans g94
  refine tpk_pos (tp_in hG ht_h0 (by decide)) hf_110 (fun q111 eq111 => ?_)
  refine va_get (D := (dC, dI)) (ci := 10) (v := .ref (ρ h0 8)) (C := RX10) (T := TX10) (N := 19) hx hb hts hfX10 hown hK hP q111 eq111 rfl 8 (by decide) (hts (.fieldLink RX10 22 "ColdShips$World" "seas" "[I") wa_41) (fun _ h9 => h9) rfl dX10_copyFrom_77 ?_
  refine lv_iconst (v := 0) hx hb dX10_copyFrom_80 (by decide) ?_
  refine lv_bipush (v := 100) hx hb dX10_copyFrom_81 (by decide) ?_
  refine tpk_20 hT y15 y15n (fun g113 hf_o112 => ?_)
  refine tpk_20 hT y2 y2n (fun g115 hf_o114 => ?_)
  refine tpk_pos (tp_in hG y15 (by decide)) hf_o112 (fun q116 eq116 => ?_)
  refine tpk_pos (tp_in hG y2 (by decide)) hf_o114 (fun q117 eq117 => ?_)
  refine va_copyi hx hb (by rw [hml]; exact hl.1.symm) hown (hts (.methodLink RX10 114 arraycopyName) wa_1497) (hts (.native arraycopyName) wa_465) (hts (.static arraycopyName) wa_466) (hts (.initialized "java/lang/System") wa_467) hK hP hD hS q116 q117 0 0 eq116 eq117 rfl rfl rfl (by decide) (by decide) (by decide) (by decide) (by decide) (fun _ _ => rfl) (Nat.le_of_ble_eq_true rfl) (Nat.le_of_ble_eq_true rfl) dX10_copyFrom_83 (tp_k (.inl (κ 0, 100, .inl (va_cpy g113 g115 (0 : Int32).toNatClampNeg (0 : Int32).toNatClampNeg (100 : Int32).toNatClampNeg))) hD (tp_in hG y2 (by decide)) eq117 (fun f118 H locs hP hD hS g120 k119 => ?_))
  have hT := hT.up y2 g120 k119 (tp_o20 y2n)
  have hR := hR.up y2 (by decide) k119
  have hX := hX.up k119 (Or.inl (by rw [tp_iu y2]; decide))
  generalize (va_cpy g113 g115 (0 : Int32).toNatClampNeg (0 : Int32).toNatClampNeg (100 : Int32).toNatClampNeg) = g121 at g120
  refine lv_iconst (v := 0) hx hb dX10_copyFrom_86 (by decide) ?_
  refine lv_istore_n (lv' := [(2, .int 0), (0, .ref h0), (1, .ref h1)]) hx hb dX10_copyFrom_87 rfl hl (by decide) rfl (fun ls hl => ?_)
  have hf_123 : f118 h0 = .inr (10, [.int o26_x0, .int o26_x1, .int o26_x2, .int o26_x3, .int o26_x4, .int o26_x5, .int o26_x6, .ref (ρ h0 7), .ref (ρ h0 8), .ref (ρ h0 9), .ref (ρ h0 10), .ref (ρ h0 11), .ref (ρ h0 12), .ref (ρ h0 13), .ref (ρ h0 14), .ref (ρ h0 15), .ref (ρ h0 16), .ref (ρ h0 17), .ref (ρ h0 18)]) := (k119 _ (tp_ne ht_h0 y2 (by decide))).trans hf_110
  have hf_124 : f118 h1 = .inr (10, [.int o26_x0, .int o26_x1, .int o26_x2, .int o26_x3, .int o26_x4, .int o26_x5, .int o26_x6, .ref (ρ h1 7), .ref (ρ h1 8), .ref (ρ h1 9), .ref (ρ h1 10), .ref (ρ h1 11), .ref (ρ h1 12), .ref (ρ h1 13), .ref (ρ h1 14), .ref (ρ h1 15), .ref (ρ h1 16), .ref (ρ h1 17), .ref (ρ h1 18)]) := (k119 _ (tp_ne ht_h1 y2 (by decide))).trans hf_108
  have hf_125 : f56 (ρ h1 12) = .inr (6, [.ref (ρ (ρ h1 12) 0), .ref (ρ (ρ h1 12) 1), .ref (ρ (ρ h1 12) 2), .int o31_x3]) := (k57 _ (tp_ne y19 ht_h0 (by decide))).trans hf_o31
  have hf_126 : f62 (ρ h1 12) = .inr (6, [.ref (ρ (ρ h1 12) 0), .ref (ρ (ρ h1 12) 1), .ref (ρ (ρ h1 12) 2), .int o31_x3]) := (k63 _ (tp_ne y19 ht_h0 (by decide))).trans hf_125
  have hf_127 : f68 (ρ h1 12) = .inr (6, [.ref (ρ (ρ h1 12) 0), .ref (ρ (ρ h1 12) 1), .ref (ρ (ρ h1 12) 2), .int o31_x3]) := (k69 _ (tp_ne y19 ht_h0 (by decide))).trans hf_126
  have hf_128 : f74 (ρ h1 12) = .inr (6, [.ref (ρ (ρ h1 12) 0), .ref (ρ (ρ h1 12) 1), .ref (ρ (ρ h1 12) 2), .int o31_x3]) := (k75 _ (tp_ne y19 ht_h0 (by decide))).trans hf_127
  have hf_129 : f80 (ρ h1 12) = .inr (6, [.ref (ρ (ρ h1 12) 0), .ref (ρ (ρ h1 12) 1), .ref (ρ (ρ h1 12) 2), .int o31_x3]) := (k81 _ (tp_ne y19 ht_h0 (by decide))).trans hf_128
  have hf_130 : f86 (ρ h1 12) = .inr (6, [.ref (ρ (ρ h1 12) 0), .ref (ρ (ρ h1 12) 1), .ref (ρ (ρ h1 12) 2), .int o31_x3]) := (k87 _ (tp_ne y19 ht_h0 (by decide))).trans hf_129
  have hf_131 : f92 (ρ h1 12) = .inr (6, [.ref (ρ (ρ h1 12) 0), .ref (ρ (ρ h1 12) 1), .ref (ρ (ρ h1 12) 2), .int o31_x3]) := (k93 _ (tp_ne y19 ht_h0 (by decide))).trans hf_130
  have hf_132 : f104 (ρ h1 12) = .inr (6, [.ref (ρ (ρ h1 12) 0), .ref (ρ (ρ h1 12) 1), .ref (ρ (ρ h1 12) 2), .int o31_x3]) := (k105 _ (tp_ne y19 y1 (by decide))).trans hf_131
  have hf_133 : f118 (ρ h1 12) = .inr (6, [.ref (ρ (ρ h1 12) 0), .ref (ρ (ρ h1 12) 1), .ref (ρ (ρ h1 12) 2), .int o31_x3]) := (k119 _ (tp_ne y19 y2 (by decide))).trans hf_132
  have hf_134 : f56 (ρ h1 13) = .inr (6, [.ref (ρ (ρ h1 13) 0), .ref (ρ (ρ h1 13) 1), .ref (ρ (ρ h1 13) 2), .int o36_x3]) := (k57 _ (tp_ne y20 ht_h0 (by decide))).trans hf_o36
  have hf_135 : f62 (ρ h1 13) = .inr (6, [.ref (ρ (ρ h1 13) 0), .ref (ρ (ρ h1 13) 1), .ref (ρ (ρ h1 13) 2), .int o36_x3]) := (k63 _ (tp_ne y20 ht_h0 (by decide))).trans hf_134
  have hf_136 : f68 (ρ h1 13) = .inr (6, [.ref (ρ (ρ h1 13) 0), .ref (ρ (ρ h1 13) 1), .ref (ρ (ρ h1 13) 2), .int o36_x3]) := (k69 _ (tp_ne y20 ht_h0 (by decide))).trans hf_135
  have hf_137 : f74 (ρ h1 13) = .inr (6, [.ref (ρ (ρ h1 13) 0), .ref (ρ (ρ h1 13) 1), .ref (ρ (ρ h1 13) 2), .int o36_x3]) := (k75 _ (tp_ne y20 ht_h0 (by decide))).trans hf_136
  have hf_138 : f80 (ρ h1 13) = .inr (6, [.ref (ρ (ρ h1 13) 0), .ref (ρ (ρ h1 13) 1), .ref (ρ (ρ h1 13) 2), .int o36_x3]) := (k81 _ (tp_ne y20 ht_h0 (by decide))).trans hf_137
  have hf_139 : f86 (ρ h1 13) = .inr (6, [.ref (ρ (ρ h1 13) 0), .ref (ρ (ρ h1 13) 1), .ref (ρ (ρ h1 13) 2), .int o36_x3]) := (k87 _ (tp_ne y20 ht_h0 (by decide))).trans hf_138
  have hf_140 : f92 (ρ h1 13) = .inr (6, [.ref (ρ (ρ h1 13) 0), .ref (ρ (ρ h1 13) 1), .ref (ρ (ρ h1 13) 2), .int o36_x3]) := (k93 _ (tp_ne y20 ht_h0 (by decide))).trans hf_139
  have hf_141 : f104 (ρ h1 13) = .inr (6, [.ref (ρ (ρ h1 13) 0), .ref (ρ (ρ h1 13) 1), .ref (ρ (ρ h1 13) 2), .int o36_x3]) := (k105 _ (tp_ne y20 y1 (by decide))).trans hf_140
  have hf_142 : f118 (ρ h1 13) = .inr (6, [.ref (ρ (ρ h1 13) 0), .ref (ρ (ρ h1 13) 1), .ref (ρ (ρ h1 13) 2), .int o36_x3]) := (k119 _ (tp_ne y20 y2 (by decide))).trans hf_141
  have hf_143 : f56 (ρ h1 14) = .inr (6, [.ref (ρ (ρ h1 14) 0), .ref (ρ (ρ h1 14) 1), .ref (ρ (ρ h1 14) 2), .int o41_x3]) := (k57 _ (tp_ne y21 ht_h0 (by decide))).trans hf_o41
  have hf_144 : f62 (ρ h1 14) = .inr (6, [.ref (ρ (ρ h1 14) 0), .ref (ρ (ρ h1 14) 1), .ref (ρ (ρ h1 14) 2), .int o41_x3]) := (k63 _ (tp_ne y21 ht_h0 (by decide))).trans hf_143
  have hf_145 : f68 (ρ h1 14) = .inr (6, [.ref (ρ (ρ h1 14) 0), .ref (ρ (ρ h1 14) 1), .ref (ρ (ρ h1 14) 2), .int o41_x3]) := (k69 _ (tp_ne y21 ht_h0 (by decide))).trans hf_144
  have hf_146 : f74 (ρ h1 14) = .inr (6, [.ref (ρ (ρ h1 14) 0), .ref (ρ (ρ h1 14) 1), .ref (ρ (ρ h1 14) 2), .int o41_x3]) := (k75 _ (tp_ne y21 ht_h0 (by decide))).trans hf_145
  have hf_147 : f80 (ρ h1 14) = .inr (6, [.ref (ρ (ρ h1 14) 0), .ref (ρ (ρ h1 14) 1), .ref (ρ (ρ h1 14) 2), .int o41_x3]) := (k81 _ (tp_ne y21 ht_h0 (by decide))).trans hf_146
  have hf_148 : f86 (ρ h1 14) = .inr (6, [.ref (ρ (ρ h1 14) 0), .ref (ρ (ρ h1 14) 1), .ref (ρ (ρ h1 14) 2), .int o41_x3]) := (k87 _ (tp_ne y21 ht_h0 (by decide))).trans hf_147
  have hf_149 : f92 (ρ h1 14) = .inr (6, [.ref (ρ (ρ h1 14) 0), .ref (ρ (ρ h1 14) 1), .ref (ρ (ρ h1 14) 2), .int o41_x3]) := (k93 _ (tp_ne y21 ht_h0 (by decide))).trans hf_148
  have hf_150 : f104 (ρ h1 14) = .inr (6, [.ref (ρ (ρ h1 14) 0), .ref (ρ (ρ h1 14) 1), .ref (ρ (ρ h1 14) 2), .int o41_x3]) := (k105 _ (tp_ne y21 y1 (by decide))).trans hf_149
  have hf_151 : f118 (ρ h1 14) = .inr (6, [.ref (ρ (ρ h1 14) 0), .ref (ρ (ρ h1 14) 1), .ref (ρ (ρ h1 14) 2), .int o41_x3]) := (k119 _ (tp_ne y21 y2 (by decide))).trans hf_150
  have hf_152 : f56 (ρ h1 15) = .inr (4, [.int o44_x0, .ref (ρ (ρ h1 15) 1), .int o44_x2]) := (k57 _ (tp_ne y22 ht_h0 (by decide))).trans hf_o44
  have hf_153 : f62 (ρ h1 15) = .inr (4, [.int o44_x0, .ref (ρ (ρ h1 15) 1), .int o44_x2]) := (k63 _ (tp_ne y22 ht_h0 (by decide))).trans hf_152
  have hf_154 : f68 (ρ h1 15) = .inr (4, [.int o44_x0, .ref (ρ (ρ h1 15) 1), .int o44_x2]) := (k69 _ (tp_ne y22 ht_h0 (by decide))).trans hf_153
  have hf_155 : f74 (ρ h1 15) = .inr (4, [.int o44_x0, .ref (ρ (ρ h1 15) 1), .int o44_x2]) := (k75 _ (tp_ne y22 ht_h0 (by decide))).trans hf_154
  have hf_156 : f80 (ρ h1 15) = .inr (4, [.int o44_x0, .ref (ρ (ρ h1 15) 1), .int o44_x2]) := (k81 _ (tp_ne y22 ht_h0 (by decide))).trans hf_155
  have hf_157 : f86 (ρ h1 15) = .inr (4, [.int o44_x0, .ref (ρ (ρ h1 15) 1), .int o44_x2]) := (k87 _ (tp_ne y22 ht_h0 (by decide))).trans hf_156
  have hf_158 : f92 (ρ h1 15) = .inr (4, [.int o44_x0, .ref (ρ (ρ h1 15) 1), .int o44_x2]) := (k93 _ (tp_ne y22 ht_h0 (by decide))).trans hf_157
  have hf_159 : f104 (ρ h1 15) = .inr (4, [.int o44_x0, .ref (ρ (ρ h1 15) 1), .int o44_x2]) := (k105 _ (tp_ne y22 y1 (by decide))).trans hf_158
  have hf_160 : f118 (ρ h1 15) = .inr (4, [.int o44_x0, .ref (ρ (ρ h1 15) 1), .int o44_x2]) := (k119 _ (tp_ne y22 y2 (by decide))).trans hf_159
  have hf_161 : f56 (ρ h1 16) = .inr (4, [.int o47_x0, .ref (ρ (ρ h1 16) 1), .int o47_x2]) := (k57 _ (tp_ne y23 ht_h0 (by decide))).trans hf_o47
  have hf_162 : f62 (ρ h1 16) = .inr (4, [.int o47_x0, .ref (ρ (ρ h1 16) 1), .int o47_x2]) := (k63 _ (tp_ne y23 ht_h0 (by decide))).trans hf_161
  have hf_163 : f68 (ρ h1 16) = .inr (4, [.int o47_x0, .ref (ρ (ρ h1 16) 1), .int o47_x2]) := (k69 _ (tp_ne y23 ht_h0 (by decide))).trans hf_162
  have hf_164 : f74 (ρ h1 16) = .inr (4, [.int o47_x0, .ref (ρ (ρ h1 16) 1), .int o47_x2]) := (k75 _ (tp_ne y23 ht_h0 (by decide))).trans hf_163
  have hf_165 : f80 (ρ h1 16) = .inr (4, [.int o47_x0, .ref (ρ (ρ h1 16) 1), .int o47_x2]) := (k81 _ (tp_ne y23 ht_h0 (by decide))).trans hf_164
  have hf_166 : f86 (ρ h1 16) = .inr (4, [.int o47_x0, .ref (ρ (ρ h1 16) 1), .int o47_x2]) := (k87 _ (tp_ne y23 ht_h0 (by decide))).trans hf_165
  have hf_167 : f92 (ρ h1 16) = .inr (4, [.int o47_x0, .ref (ρ (ρ h1 16) 1), .int o47_x2]) := (k93 _ (tp_ne y23 ht_h0 (by decide))).trans hf_166
  have hf_168 : f104 (ρ h1 16) = .inr (4, [.int o47_x0, .ref (ρ (ρ h1 16) 1), .int o47_x2]) := (k105 _ (tp_ne y23 y1 (by decide))).trans hf_167
  have hf_169 : f118 (ρ h1 16) = .inr (4, [.int o47_x0, .ref (ρ (ρ h1 16) 1), .int o47_x2]) := (k119 _ (tp_ne y23 y2 (by decide))).trans hf_168
  have hf_170 : f56 (ρ h1 17) = .inr (4, [.int o50_x0, .ref (ρ (ρ h1 17) 1), .int o50_x2]) := (k57 _ (tp_ne y24 ht_h0 (by decide))).trans hf_o50
  have hf_171 : f62 (ρ h1 17) = .inr (4, [.int o50_x0, .ref (ρ (ρ h1 17) 1), .int o50_x2]) := (k63 _ (tp_ne y24 ht_h0 (by decide))).trans hf_170
  have hf_172 : f68 (ρ h1 17) = .inr (4, [.int o50_x0, .ref (ρ (ρ h1 17) 1), .int o50_x2]) := (k69 _ (tp_ne y24 ht_h0 (by decide))).trans hf_171
  have hf_173 : f74 (ρ h1 17) = .inr (4, [.int o50_x0, .ref (ρ (ρ h1 17) 1), .int o50_x2]) := (k75 _ (tp_ne y24 ht_h0 (by decide))).trans hf_172
  have hf_174 : f80 (ρ h1 17) = .inr (4, [.int o50_x0, .ref (ρ (ρ h1 17) 1), .int o50_x2]) := (k81 _ (tp_ne y24 ht_h0 (by decide))).trans hf_173
  have hf_175 : f86 (ρ h1 17) = .inr (4, [.int o50_x0, .ref (ρ (ρ h1 17) 1), .int o50_x2]) := (k87 _ (tp_ne y24 ht_h0 (by decide))).trans hf_174
  have hf_176 : f92 (ρ h1 17) = .inr (4, [.int o50_x0, .ref (ρ (ρ h1 17) 1), .int o50_x2]) := (k93 _ (tp_ne y24 ht_h0 (by decide))).trans hf_175
  have hf_177 : f104 (ρ h1 17) = .inr (4, [.int o50_x0, .ref (ρ (ρ h1 17) 1), .int o50_x2]) := (k105 _ (tp_ne y24 y1 (by decide))).trans hf_176
  have hf_178 : f118 (ρ h1 17) = .inr (4, [.int o50_x0, .ref (ρ (ρ h1 17) 1), .int o50_x2]) := (k119 _ (tp_ne y24 y2 (by decide))).trans hf_177
  have hf_179 : f56 (ρ h1 18) = .inr (4, [.int o53_x0, .ref (ρ (ρ h1 18) 1), .int o53_x2]) := (k57 _ (tp_ne y25 ht_h0 (by decide))).trans hf_o53
  have hf_180 : f62 (ρ h1 18) = .inr (4, [.int o53_x0, .ref (ρ (ρ h1 18) 1), .int o53_x2]) := (k63 _ (tp_ne y25 ht_h0 (by decide))).trans hf_179
  have hf_181 : f68 (ρ h1 18) = .inr (4, [.int o53_x0, .ref (ρ (ρ h1 18) 1), .int o53_x2]) := (k69 _ (tp_ne y25 ht_h0 (by decide))).trans hf_180
  have hf_182 : f74 (ρ h1 18) = .inr (4, [.int o53_x0, .ref (ρ (ρ h1 18) 1), .int o53_x2]) := (k75 _ (tp_ne y25 ht_h0 (by decide))).trans hf_181
  have hf_183 : f80 (ρ h1 18) = .inr (4, [.int o53_x0, .ref (ρ (ρ h1 18) 1), .int o53_x2]) := (k81 _ (tp_ne y25 ht_h0 (by decide))).trans hf_182
  have hf_184 : f86 (ρ h1 18) = .inr (4, [.int o53_x0, .ref (ρ (ρ h1 18) 1), .int o53_x2]) := (k87 _ (tp_ne y25 ht_h0 (by decide))).trans hf_183
  have hf_185 : f92 (ρ h1 18) = .inr (4, [.int o53_x0, .ref (ρ (ρ h1 18) 1), .int o53_x2]) := (k93 _ (tp_ne y25 ht_h0 (by decide))).trans hf_184
  have hf_186 : f104 (ρ h1 18) = .inr (4, [.int o53_x0, .ref (ρ (ρ h1 18) 1), .int o53_x2]) := (k105 _ (tp_ne y25 y1 (by decide))).trans hf_185
  have hf_187 : f118 (ρ h1 18) = .inr (4, [.int o53_x0, .ref (ρ (ρ h1 18) 1), .int o53_x2]) := (k119 _ (tp_ne y25 y2 (by decide))).trans hf_186
  refine pz_loop (fun n0 H locs ls => ∃ f197 : Nat → va_E, ∃ w122 : Int32, n0 = (12 - (w122.toInt)).toNat ∧ tp_T Ω κ τ ν ρ f197 ∧ tp_F τ [5, 6, 7, 8, 9, 11, 20, 21, 26] f f197 ∧ tp_X τ ρ (fun n => (ρ h0 30 ≤ n ∧ n ≤ ρ h0 30 + 18)) f f197 ∧ f197 h0 = .inr (10, [.int o26_x0, .int o26_x1, .int o26_x2, .int o26_x3, .int o26_x4, .int o26_x5, .int o26_x6, .ref (ρ h0 7), .ref (ρ h0 8), .ref (ρ h0 9), .ref (ρ h0 10), .ref (ρ h0 11), .ref (ρ h0 12), .ref (ρ h0 13), .ref (ρ h0 14), .ref (ρ h0 15), .ref (ρ h0 16), .ref (ρ h0 17), .ref (ρ h0 18)]) ∧ f197 h1 = .inr (10, [.int o26_x0, .int o26_x1, .int o26_x2, .int o26_x3, .int o26_x4, .int o26_x5, .int o26_x6, .ref (ρ h1 7), .ref (ρ h1 8), .ref (ρ h1 9), .ref (ρ h1 10), .ref (ρ h1 11), .ref (ρ h1 12), .ref (ρ h1 13), .ref (ρ h1 14), .ref (ρ h1 15), .ref (ρ h1 16), .ref (ρ h1 17), .ref (ρ h1 18)]) ∧ f197 (ρ h1 12) = .inr (6, [.ref (ρ (ρ h1 12) 0), .ref (ρ (ρ h1 12) 1), .ref (ρ (ρ h1 12) 2), .int o31_x3]) ∧ f197 (ρ h1 13) = .inr (6, [.ref (ρ (ρ h1 13) 0), .ref (ρ (ρ h1 13) 1), .ref (ρ (ρ h1 13) 2), .int o36_x3]) ∧ f197 (ρ h1 14) = .inr (6, [.ref (ρ (ρ h1 14) 0), .ref (ρ (ρ h1 14) 1), .ref (ρ (ρ h1 14) 2), .int o41_x3]) ∧ f197 (ρ h1 15) = .inr (4, [.int o44_x0, .ref (ρ (ρ h1 15) 1), .int o44_x2]) ∧ f197 (ρ h1 16) = .inr (4, [.int o47_x0, .ref (ρ (ρ h1 16) 1), .int o47_x2]) ∧ f197 (ρ h1 17) = .inr (4, [.int o50_x0, .ref (ρ (ρ h1 17) 1), .int o50_x2]) ∧ f197 (ρ h1 18) = .inr (4, [.int o53_x0, .ref (ρ (ρ h1 18) 1), .int o53_x2]) ∧ (0 ≤ w122.toInt ∧ w122.toInt ≤ 12) ∧ va_P (dC, dI) vwCl (va_pl L f197) H ∧ va_D A (va_pl L f197) ∧ va_S A s.heap H locs ∧ lv_has ls 3 [(2, .int w122), (0, .ref h0), (1, .ref h1)]) ?_ _ _ _ _ ⟨f118, 0, rfl, hT, hR, hX, hf_123, hf_124, hf_133, hf_142, hf_151, hf_160, hf_169, hf_178, hf_187, (by have : (0 : Int32).toInt = 0 := rfl; omega), hP, hD, hS, lv_sub hl [0, 1, 2] rfl⟩
  intro n0 H locs ls hI ih198
  refine Exists.elim hI (fun f197 hE90 => Exists.elim hE90 (fun w122 hE91 => tn_18 hE91 (fun hn199 hT hR hX hk188k hk189k hk190k hk191k hk192k hk193k hk194k hk195k hk196k rw122 hP hD hS hl => ?_)))
  clear hE91 hE90 hI
  refine lv_iload_n hx hb dX10_copyFrom_88 rfl (lv_at hl 0 rfl) ?_
  refine lv_bipush (v := 12) hx hb dX10_copyFrom_89 (by decide) ?_
  refine lv_icmp_ge (tgt := 112) hx hb dX10_copyFrom_91 (by decide) (fun c200 => ?_) (fun c200 => ?_)
  · have ic200 : w122.toInt ≥ 12 := zi_ge rfl rfl c200
    refine lv_iconst (v := 0) hx hb dX10_copyFrom_112 (by decide) ?_
    refine lv_istore_n (lv' := [(2, .int 0), (0, .ref h0), (1, .ref h1)]) hx hb dX10_copyFrom_113 rfl hl (by decide) rfl (fun ls hl => ?_)
    refine pz_loop (fun n0 H locs ls => ∃ f211 : Nat → va_E, ∃ w201 : Int32, n0 = (6 - (w201.toInt)).toNat ∧ tp_T Ω κ τ ν ρ f211 ∧ tp_F τ [5, 6, 7, 8, 9, 11, 20, 21, 26] f f211 ∧ tp_X τ ρ (fun n => (ρ h0 30 ≤ n ∧ n ≤ ρ h0 30 + 18)) f f211 ∧ f211 h0 = .inr (10, [.int o26_x0, .int o26_x1, .int o26_x2, .int o26_x3, .int o26_x4, .int o26_x5, .int o26_x6, .ref (ρ h0 7), .ref (ρ h0 8), .ref (ρ h0 9), .ref (ρ h0 10), .ref (ρ h0 11), .ref (ρ h0 12), .ref (ρ h0 13), .ref (ρ h0 14), .ref (ρ h0 15), .ref (ρ h0 16), .ref (ρ h0 17), .ref (ρ h0 18)]) ∧ f211 h1 = .inr (10, [.int o26_x0, .int o26_x1, .int o26_x2, .int o26_x3, .int o26_x4, .int o26_x5, .int o26_x6, .ref (ρ h1 7), .ref (ρ h1 8), .ref (ρ h1 9), .ref (ρ h1 10), .ref (ρ h1 11), .ref (ρ h1 12), .ref (ρ h1 13), .ref (ρ h1 14), .ref (ρ h1 15), .ref (ρ h1 16), .ref (ρ h1 17), .ref (ρ h1 18)]) ∧ f211 (ρ h1 12) = .inr (6, [.ref (ρ (ρ h1 12) 0), .ref (ρ (ρ h1 12) 1), .ref (ρ (ρ h1 12) 2), .int o31_x3]) ∧ f211 (ρ h1 13) = .inr (6, [.ref (ρ (ρ h1 13) 0), .ref (ρ (ρ h1 13) 1), .ref (ρ (ρ h1 13) 2), .int o36_x3]) ∧ f211 (ρ h1 14) = .inr (6, [.ref (ρ (ρ h1 14) 0), .ref (ρ (ρ h1 14) 1), .ref (ρ (ρ h1 14) 2), .int o41_x3]) ∧ f211 (ρ h1 15) = .inr (4, [.int o44_x0, .ref (ρ (ρ h1 15) 1), .int o44_x2]) ∧ f211 (ρ h1 16) = .inr (4, [.int o47_x0, .ref (ρ (ρ h1 16) 1), .int o47_x2]) ∧ f211 (ρ h1 17) = .inr (4, [.int o50_x0, .ref (ρ (ρ h1 17) 1), .int o50_x2]) ∧ f211 (ρ h1 18) = .inr (4, [.int o53_x0, .ref (ρ (ρ h1 18) 1), .int o53_x2]) ∧ (0 ≤ w201.toInt ∧ w201.toInt ≤ 6) ∧ va_P (dC, dI) vwCl (va_pl L f211) H ∧ va_D A (va_pl L f211) ∧ va_S A s.heap H locs ∧ lv_has ls 3 [(2, .int w201), (0, .ref h0), (1, .ref h1)]) ?_ _ _ _ _ ⟨f197, 0, rfl, hT, hR, hX, hk188k, hk189k, hk190k, hk191k, hk192k, hk193k, hk194k, hk195k, hk196k, (by have : (0 : Int32).toInt = 0 := rfl; omega), hP, hD, hS, lv_sub hl [0, 1, 2] rfl⟩
    intro n0 H locs ls hI ih212
    refine Exists.elim hI (fun f211 hE90 => Exists.elim hE90 (fun w201 hE91 => tn_18 hE91 (fun hn213 hT hR hX hk202k hk203k hk204k hk205k hk206k hk207k hk208k hk209k hk210k rw201 hP hD hS hl => ?_)))
    clear hE91 hE90 hI
    refine lv_iload_n hx hb dX10_copyFrom_114 rfl (lv_at hl 0 rfl) ?_
    refine lv_aload_n hx hb dX10_copyFrom_115 rfl (lv_at hl 1 rfl) ?_
    refine tpk_pos (tp_in hG ht_h0 (by decide)) hk202k (fun q214 eq214 => ?_)
    refine va_get (D := (dC, dI)) (ci := 10) (v := .int o26_x4) (C := RX10) (T := TX10) (N := 19) hx hb hts hfX10 hown hK hP q214 eq214 rfl 4 (by decide) (hts (.fieldLink RX10 78 "ColdShips$World" "terminalCount" "I") wa_237) (fun _ h9 => h9) rfl dX10_copyFrom_116 ?_
    refine lv_icmp_ge (tgt := 143) hx hb dX10_copyFrom_119 (by decide) (fun c215 => ?_) (fun c215 => ?_)
    · have ic215 : w201.toInt ≥ o26_x4.toInt := zi_ge rfl rfl c215
      refine lv_iconst (v := 0) hx hb dX10_copyFrom_143 (by decide) ?_
      refine lv_istore_n (lv' := [(2, .int 0), (0, .ref h0), (1, .ref h1)]) hx hb dX10_copyFrom_144 rfl hl (by decide) rfl (fun ls hl => ?_)
      refine pz_loop (fun n0 H locs ls => ∃ f226 : Nat → va_E, ∃ w216 : Int32, n0 = (6 - (w216.toInt)).toNat ∧ tp_T Ω κ τ ν ρ f226 ∧ tp_F τ [5, 6, 7, 8, 9, 11, 20, 21, 26] f f226 ∧ tp_X τ ρ (fun n => (ρ h0 30 ≤ n ∧ n ≤ ρ h0 30 + 18)) f f226 ∧ f226 h0 = .inr (10, [.int o26_x0, .int o26_x1, .int o26_x2, .int o26_x3, .int o26_x4, .int o26_x5, .int o26_x6, .ref (ρ h0 7), .ref (ρ h0 8), .ref (ρ h0 9), .ref (ρ h0 10), .ref (ρ h0 11), .ref (ρ h0 12), .ref (ρ h0 13), .ref (ρ h0 14), .ref (ρ h0 15), .ref (ρ h0 16), .ref (ρ h0 17), .ref (ρ h0 18)]) ∧ f226 h1 = .inr (10, [.int o26_x0, .int o26_x1, .int o26_x2, .int o26_x3, .int o26_x4, .int o26_x5, .int o26_x6, .ref (ρ h1 7), .ref (ρ h1 8), .ref (ρ h1 9), .ref (ρ h1 10), .ref (ρ h1 11), .ref (ρ h1 12), .ref (ρ h1 13), .ref (ρ h1 14), .ref (ρ h1 15), .ref (ρ h1 16), .ref (ρ h1 17), .ref (ρ h1 18)]) ∧ f226 (ρ h1 12) = .inr (6, [.ref (ρ (ρ h1 12) 0), .ref (ρ (ρ h1 12) 1), .ref (ρ (ρ h1 12) 2), .int o31_x3]) ∧ f226 (ρ h1 13) = .inr (6, [.ref (ρ (ρ h1 13) 0), .ref (ρ (ρ h1 13) 1), .ref (ρ (ρ h1 13) 2), .int o36_x3]) ∧ f226 (ρ h1 14) = .inr (6, [.ref (ρ (ρ h1 14) 0), .ref (ρ (ρ h1 14) 1), .ref (ρ (ρ h1 14) 2), .int o41_x3]) ∧ f226 (ρ h1 15) = .inr (4, [.int o44_x0, .ref (ρ (ρ h1 15) 1), .int o44_x2]) ∧ f226 (ρ h1 16) = .inr (4, [.int o47_x0, .ref (ρ (ρ h1 16) 1), .int o47_x2]) ∧ f226 (ρ h1 17) = .inr (4, [.int o50_x0, .ref (ρ (ρ h1 17) 1), .int o50_x2]) ∧ f226 (ρ h1 18) = .inr (4, [.int o53_x0, .ref (ρ (ρ h1 18) 1), .int o53_x2]) ∧ (0 ≤ w216.toInt ∧ w216.toInt ≤ 6) ∧ va_P (dC, dI) vwCl (va_pl L f226) H ∧ va_D A (va_pl L f226) ∧ va_S A s.heap H locs ∧ lv_has ls 3 [(2, .int w216), (0, .ref h0), (1, .ref h1)]) ?_ _ _ _ _ ⟨f211, 0, rfl, hT, hR, hX, hk202k, hk203k, hk204k, hk205k, hk206k, hk207k, hk208k, hk209k, hk210k, (by have : (0 : Int32).toInt = 0 := rfl; omega), hP, hD, hS, lv_sub hl [0, 1, 2] rfl⟩
      intro n0 H locs ls hI ih227
      refine Exists.elim hI (fun f226 hE90 => Exists.elim hE90 (fun w216 hE91 => tn_18 hE91 (fun hn228 hT hR hX hk217k hk218k hk219k hk220k hk221k hk222k hk223k hk224k hk225k rw216 hP hD hS hl => ?_)))
      clear hE91 hE90 hI
      refine lv_iload_n hx hb dX10_copyFrom_145 rfl (lv_at hl 0 rfl) ?_
      refine lv_aload_n hx hb dX10_copyFrom_146 rfl (lv_at hl 1 rfl) ?_
      refine tpk_pos (tp_in hG ht_h0 (by decide)) hk217k (fun q229 eq229 => ?_)
      refine va_get (D := (dC, dI)) (ci := 10) (v := .int o26_x5) (C := RX10) (T := TX10) (N := 19) hx hb hts hfX10 hown hK hP q229 eq229 rfl 5 (by decide) (hts (.fieldLink RX10 81 "ColdShips$World" "shipCount" "I") wa_330) (fun _ h9 => h9) rfl dX10_copyFrom_147 ?_
      refine lv_icmp_ge (tgt := 174) hx hb dX10_copyFrom_150 (by decide) (fun c230 => ?_) (fun c230 => ?_)
      · have ic230 : w216.toInt ≥ o26_x5.toInt := zi_ge rfl rfl c230
        refine lv_aload_n hx hb dX10_copyFrom_174 rfl (lv_at hl 1 rfl) ?_
        refine va_get (D := (dC, dI)) (ci := 10) (v := .ref (ρ h0 12)) (C := RX10) (T := TX10) (N := 19) hx hb hts hfX10 hown hK hP q229 eq229 rfl 12 (by decide) (hts (.fieldLink RX10 48 "ColdShips$World" "slots" "LColdShips$Spans;") wa_51) (fun _ h9 => h9) rfl dX10_copyFrom_175 ?_
        refine lv_aload_n hx hb dX10_copyFrom_178 rfl (lv_at hl 2 rfl) ?_
        refine tpk_pos (tp_in hG ht_h1 (by decide)) hk218k (fun q231 eq231 => ?_)
        refine va_get (D := (dC, dI)) (ci := 10) (v := .ref (ρ h1 12)) (C := RX10) (T := TX10) (N := 19) hx hb hts hfX10 hown hK hP q231 eq231 rfl 12 (by decide) (hts (.fieldLink RX10 48 "ColdShips$World" "slots" "LColdShips$Spans;") wa_51) (fun _ h9 => h9) rfl dX10_copyFrom_179 ?_
        refine tgk_7 hG y6 (fun y232 y232n y233 y233n y234 y234n y235a y235b => ?_)
        refine tpk_7 hT y6 (fun o236_x3 hf_o236 ro236_0 => ?_)
        refine tpk_pos (tp_in hG y6 (by decide)) hf_o236 (fun q237 eq237 => ?_)
        have hFc := tp_fr hD hS hA
        have ro236_0 := tp_hu ro236_0; have ro31_0 := tp_hu ro31_0
        refine va_callv (va_runV (As := [.ref (ρ h1 12)]) (rest := []) ⟨hx, hb, hml, hown, hts⟩ (t_X6_copyFrom l dC dI _ Ω κ τ ν ρ L f226 hG hT (ρ h0 12) (ρ h1 12) y6 y19 o236_x3 hf_o236 o31_x3 hk219k (by omega)) (cwV 1 hts gX10_copyFrom_X6_copyFrom rfl rfl rfl ⟨rfl, pd_X6_copyFrom⟩ ⟨Nat.le_of_ble_eq_true rfl, Nat.le_of_ble_eq_true rfl⟩) ⟨pz_blind, va_recv hK hP (ci := 6) (q0 := q237) rfl eq237, pz_pre hP hK hD hN⟩ rfl rfl hl.1 rfl (lv_room (Nat.le_of_ble_eq_true rfl)) dX10_copyFrom_182 ⟨Nat.le_of_ble_eq_true rfl, Nat.le_of_ble_eq_true rfl⟩) hS (fun q _ h => hFc q h) hFc (fun f240 t H1 locs ht hvm hw239 hB hz1 hk1 hS => ?_)
        refine tn_3 hw239 (fun hT hF241 hw239p => ?_); clear hw239
        have hR := hR.then hF241 (by decide)
        obtain ⟨hw239x, hw239p⟩ := hw239p
        have hX := hX.th hw239x (fun n q9 => by have q8 : n = ρ (ρ h0 12) 30 := q9; show (ρ h0 30 ≤ n ∧ n ≤ ρ h0 30 + 18); omega)
        have hP := hB.1; rw [ht] at hP; have hD := tp_ad f240 hD; clear hB hFc hz1 hk1; subst ht; generalize t.heap = H at hP hS ⊢
        refine tpk_7 hT y6 (fun o242_x3 hf_o242 ro242_0 => ?_)
        have ro242_0 := tp_hu ro242_0
        have tv243 : tp_fld (f240 (ρ h0 12)) 3 = o242_x3.toInt := by rw [hf_o242]; rfl
        have pl244 : (o242_x3.toInt = o31_x3.toInt) := by have q9 := hw239p; rw [tv243] at q9; exact q9
        refine lv_aload_n hx hb dX10_copyFrom_185 rfl (lv_at hl 1 rfl) ?_
        have hf_245 : f240 h0 = .inr (10, [.int o26_x0, .int o26_x1, .int o26_x2, .int o26_x3, .int o26_x4, .int o26_x5, .int o26_x6, .ref (ρ h0 7), .ref (ρ h0 8), .ref (ρ h0 9), .ref (ρ h0 10), .ref (ρ h0 11), .ref (ρ h0 12), .ref (ρ h0 13), .ref (ρ h0 14), .ref (ρ h0 15), .ref (ρ h0 16), .ref (ρ h0 17), .ref (ρ h0 18)]) := (hF241 _ (by rw [ht_h0]; decide)).trans hk217k
        refine tpk_pos (tp_in hG ht_h0 (by decide)) hf_245 (fun q246 eq246 => ?_)
        refine va_get (D := (dC, dI)) (ci := 10) (v := .ref (ρ h0 13)) (C := RX10) (T := TX10) (N := 19) hx hb hts hfX10 hown hK hP q246 eq246 rfl 13 (by decide) (hts (.fieldLink RX10 52 "ColdShips$World" "breaks" "LColdShips$Spans;") wa_52) (fun _ h9 => h9) rfl dX10_copyFrom_186 ?_
        refine lv_aload_n hx hb dX10_copyFrom_189 rfl (lv_at hl 2 rfl) ?_
        have hf_247 : f240 h1 = .inr (10, [.int o26_x0, .int o26_x1, .int o26_x2, .int o26_x3, .int o26_x4, .int o26_x5, .int o26_x6, .ref (ρ h1 7), .ref (ρ h1 8), .ref (ρ h1 9), .ref (ρ h1 10), .ref (ρ h1 11), .ref (ρ h1 12), .ref (ρ h1 13), .ref (ρ h1 14), .ref (ρ h1 15), .ref (ρ h1 16), .ref (ρ h1 17), .ref (ρ h1 18)]) := (hF241 _ (by rw [ht_h1]; decide)).trans hk218k
        refine tpk_pos (tp_in hG ht_h1 (by decide)) hf_247 (fun q248 eq248 => ?_)
        refine va_get (D := (dC, dI)) (ci := 10) (v := .ref (ρ h1 13)) (C := RX10) (T := TX10) (N := 19) hx hb hts hfX10 hown hK hP q248 eq248 rfl 13 (by decide) (hts (.fieldLink RX10 52 "ColdShips$World" "breaks" "LColdShips$Spans;") wa_52) (fun _ h9 => h9) rfl dX10_copyFrom_190 ?_
        refine tgk_7 hG y7 (fun y249 y249n y250 y250n y251 y251n y252a y252b => ?_)
        refine tpk_7 hT y7 (fun o253_x3 hf_o253 ro253_0 => ?_)
        have hf_254 : f240 (ρ h1 13) = .inr (6, [.ref (ρ (ρ h1 13) 0), .ref (ρ (ρ h1 13) 1), .ref (ρ (ρ h1 13) 2), .int o36_x3]) := (hw239x _ (by rw [tp_iu y20]; decide) (fun q9 => by have q8 : (ρ (ρ h1 13) 30) = ρ (ρ h0 12) 30 := q9; omega)).trans hk220k
        refine tpk_pos (tp_in hG y7 (by decide)) hf_o253 (fun q255 eq255 => ?_)
        have hFc := tp_fr hD hS hA
        have ro253_0 := tp_hu ro253_0; have ro36_0 := tp_hu ro36_0
        refine va_callv (va_runV (As := [.ref (ρ h1 13)]) (rest := []) ⟨hx, hb, hml, hown, hts⟩ (t_X6_copyFrom l dC dI _ Ω κ τ ν ρ L f240 hG hT (ρ h0 13) (ρ h1 13) y7 y20 o253_x3 hf_o253 o36_x3 hf_254 (by omega)) (cwV 1 hts gX10_copyFrom_X6_copyFrom rfl rfl rfl ⟨rfl, pd_X6_copyFrom⟩ ⟨Nat.le_of_ble_eq_true rfl, Nat.le_of_ble_eq_true rfl⟩) ⟨pz_blind, va_recv hK hP (ci := 6) (q0 := q255) rfl eq255, pz_pre hP hK hD hN⟩ rfl rfl hl.1 rfl (lv_room (Nat.le_of_ble_eq_true rfl)) dX10_copyFrom_193 ⟨Nat.le_of_ble_eq_true rfl, Nat.le_of_ble_eq_true rfl⟩) hS (fun q _ h => hFc q h) hFc (fun f258 t H1 locs ht hvm hw257 hB hz1 hk1 hS => ?_)
        refine tn_3 hw257 (fun hT hF259 hw257p => ?_); clear hw257
        have hR := hR.then hF259 (by decide)
        obtain ⟨hw257x, hw257p⟩ := hw257p
        have hX := hX.th hw257x (fun n q9 => by have q8 : n = ρ (ρ h0 13) 30 := q9; show (ρ h0 30 ≤ n ∧ n ≤ ρ h0 30 + 18); omega)
        have hP := hB.1; rw [ht] at hP; have hD := tp_ad f258 hD; clear hB hFc hz1 hk1; subst ht; generalize t.heap = H at hP hS ⊢
        refine tpk_7 hT y7 (fun o260_x3 hf_o260 ro260_0 => ?_)
        have ro260_0 := tp_hu ro260_0
        have tv261 : tp_fld (f258 (ρ h0 13)) 3 = o260_x3.toInt := by rw [hf_o260]; rfl
        have pl262 : (o260_x3.toInt = o36_x3.toInt) := by have q9 := hw257p; rw [tv261] at q9; exact q9
        refine lv_aload_n hx hb dX10_copyFrom_196 rfl (lv_at hl 1 rfl) ?_
        have hf_263 : f258 h0 = .inr (10, [.int o26_x0, .int o26_x1, .int o26_x2, .int o26_x3, .int o26_x4, .int o26_x5, .int o26_x6, .ref (ρ h0 7), .ref (ρ h0 8), .ref (ρ h0 9), .ref (ρ h0 10), .ref (ρ h0 11), .ref (ρ h0 12), .ref (ρ h0 13), .ref (ρ h0 14), .ref (ρ h0 15), .ref (ρ h0 16), .ref (ρ h0 17), .ref (ρ h0 18)]) := (hF259 _ (by rw [ht_h0]; decide)).trans hf_245
        refine tpk_pos (tp_in hG ht_h0 (by decide)) hf_263 (fun q264 eq264 => ?_)
        refine va_get (D := (dC, dI)) (ci := 10) (v := .ref (ρ h0 14)) (C := RX10) (T := TX10) (N := 19) hx hb hts hfX10 hown hK hP q264 eq264 rfl 14 (by decide) (hts (.fieldLink RX10 55 "ColdShips$World" "forces" "LColdShips$Spans;") wa_53) (fun _ h9 => h9) rfl dX10_copyFrom_197 ?_
        refine lv_aload_n hx hb dX10_copyFrom_200 rfl (lv_at hl 2 rfl) ?_
        have hf_265 : f258 h1 = .inr (10, [.int o26_x0, .int o26_x1, .int o26_x2, .int o26_x3, .int o26_x4, .int o26_x5, .int o26_x6, .ref (ρ h1 7), .ref (ρ h1 8), .ref (ρ h1 9), .ref (ρ h1 10), .ref (ρ h1 11), .ref (ρ h1 12), .ref (ρ h1 13), .ref (ρ h1 14), .ref (ρ h1 15), .ref (ρ h1 16), .ref (ρ h1 17), .ref (ρ h1 18)]) := (hF259 _ (by rw [ht_h1]; decide)).trans hf_247
        refine tpk_pos (tp_in hG ht_h1 (by decide)) hf_265 (fun q266 eq266 => ?_)
        refine va_get (D := (dC, dI)) (ci := 10) (v := .ref (ρ h1 14)) (C := RX10) (T := TX10) (N := 19) hx hb hts hfX10 hown hK hP q266 eq266 rfl 14 (by decide) (hts (.fieldLink RX10 55 "ColdShips$World" "forces" "LColdShips$Spans;") wa_53) (fun _ h9 => h9) rfl dX10_copyFrom_201 ?_
        refine tgk_7 hG y8 (fun y267 y267n y268 y268n y269 y269n y270a y270b => ?_)
        refine tpk_7 hT y8 (fun o271_x3 hf_o271 ro271_0 => ?_)
        have hf_272 : f240 (ρ h1 14) = .inr (6, [.ref (ρ (ρ h1 14) 0), .ref (ρ (ρ h1 14) 1), .ref (ρ (ρ h1 14) 2), .int o41_x3]) := (hw239x _ (by rw [tp_iu y21]; decide) (fun q9 => by have q8 : (ρ (ρ h1 14) 30) = ρ (ρ h0 12) 30 := q9; omega)).trans hk221k
        have hf_273 : f258 (ρ h1 14) = .inr (6, [.ref (ρ (ρ h1 14) 0), .ref (ρ (ρ h1 14) 1), .ref (ρ (ρ h1 14) 2), .int o41_x3]) := (hw257x _ (by rw [tp_iu y21]; decide) (fun q9 => by have q8 : (ρ (ρ h1 14) 30) = ρ (ρ h0 13) 30 := q9; omega)).trans hf_272
        refine tpk_pos (tp_in hG y8 (by decide)) hf_o271 (fun q274 eq274 => ?_)
        have hFc := tp_fr hD hS hA
        have ro271_0 := tp_hu ro271_0; have ro41_0 := tp_hu ro41_0
        refine va_callv (va_runV (As := [.ref (ρ h1 14)]) (rest := []) ⟨hx, hb, hml, hown, hts⟩ (t_X6_copyFrom l dC dI _ Ω κ τ ν ρ L f258 hG hT (ρ h0 14) (ρ h1 14) y8 y21 o271_x3 hf_o271 o41_x3 hf_273 (by omega)) (cwV 1 hts gX10_copyFrom_X6_copyFrom rfl rfl rfl ⟨rfl, pd_X6_copyFrom⟩ ⟨Nat.le_of_ble_eq_true rfl, Nat.le_of_ble_eq_true rfl⟩) ⟨pz_blind, va_recv hK hP (ci := 6) (q0 := q274) rfl eq274, pz_pre hP hK hD hN⟩ rfl rfl hl.1 rfl (lv_room (Nat.le_of_ble_eq_true rfl)) dX10_copyFrom_204 ⟨Nat.le_of_ble_eq_true rfl, Nat.le_of_ble_eq_true rfl⟩) hS (fun q _ h => hFc q h) hFc (fun f277 t H1 locs ht hvm hw276 hB hz1 hk1 hS => ?_)
        refine tn_3 hw276 (fun hT hF278 hw276p => ?_); clear hw276
        have hR := hR.then hF278 (by decide)
        obtain ⟨hw276x, hw276p⟩ := hw276p
        have hX := hX.th hw276x (fun n q9 => by have q8 : n = ρ (ρ h0 14) 30 := q9; show (ρ h0 30 ≤ n ∧ n ≤ ρ h0 30 + 18); omega)
        have hP := hB.1; rw [ht] at hP; have hD := tp_ad f277 hD; clear hB hFc hz1 hk1; subst ht; generalize t.heap = H at hP hS ⊢
        refine tpk_7 hT y8 (fun o279_x3 hf_o279 ro279_0 => ?_)
        have ro279_0 := tp_hu ro279_0
        have tv280 : tp_fld (f277 (ρ h0 14)) 3 = o279_x3.toInt := by rw [hf_o279]; rfl
        have pl281 : (o279_x3.toInt = o41_x3.toInt) := by have q9 := hw276p; rw [tv280] at q9; exact q9
        refine lv_aload_n hx hb dX10_copyFrom_207 rfl (lv_at hl 1 rfl) ?_
        have hf_282 : f277 h0 = .inr (10, [.int o26_x0, .int o26_x1, .int o26_x2, .int o26_x3, .int o26_x4, .int o26_x5, .int o26_x6, .ref (ρ h0 7), .ref (ρ h0 8), .ref (ρ h0 9), .ref (ρ h0 10), .ref (ρ h0 11), .ref (ρ h0 12), .ref (ρ h0 13), .ref (ρ h0 14), .ref (ρ h0 15), .ref (ρ h0 16), .ref (ρ h0 17), .ref (ρ h0 18)]) := (hF278 _ (by rw [ht_h0]; decide)).trans hf_263
        refine tpk_pos (tp_in hG ht_h0 (by decide)) hf_282 (fun q283 eq283 => ?_)
        refine va_get (D := (dC, dI)) (ci := 10) (v := .ref (ρ h0 15)) (C := RX10) (T := TX10) (N := 19) hx hb hts hfX10 hown hK hP q283 eq283 rfl 15 (by decide) (hts (.fieldLink RX10 63 "ColdShips$World" "prices" "LColdShips$Rows;") wa_57) (fun _ h9 => h9) rfl dX10_copyFrom_208 ?_
        refine lv_aload_n hx hb dX10_copyFrom_211 rfl (lv_at hl 2 rfl) ?_
        have hf_284 : f277 h1 = .inr (10, [.int o26_x0, .int o26_x1, .int o26_x2, .int o26_x3, .int o26_x4, .int o26_x5, .int o26_x6, .ref (ρ h1 7), .ref (ρ h1 8), .ref (ρ h1 9), .ref (ρ h1 10), .ref (ρ h1 11), .ref (ρ h1 12), .ref (ρ h1 13), .ref (ρ h1 14), .ref (ρ h1 15), .ref (ρ h1 16), .ref (ρ h1 17), .ref (ρ h1 18)]) := (hF278 _ (by rw [ht_h1]; decide)).trans hf_265
        refine tpk_pos (tp_in hG ht_h1 (by decide)) hf_284 (fun q285 eq285 => ?_)
        refine va_get (D := (dC, dI)) (ci := 10) (v := .ref (ρ h1 15)) (C := RX10) (T := TX10) (N := 19) hx hb hts hfX10 hown hK hP q285 eq285 rfl 15 (by decide) (hts (.fieldLink RX10 63 "ColdShips$World" "prices" "LColdShips$Rows;") wa_57) (fun _ h9 => h9) rfl dX10_copyFrom_212 ?_
        refine tgk_5 hG y9 (fun y286 y286n y287a y287b y287c => ?_)
        refine tpk_5 hT y9 (fun o288_x0 o288_x2 hf_o288 ro288_0 ro288_1 => ?_)
        have hf_289 : f240 (ρ h1 15) = .inr (4, [.int o44_x0, .ref (ρ (ρ h1 15) 1), .int o44_x2]) := (hF241 _ (by rw [tp_iu y22]; decide)).trans hk222k
        have hf_290 : f258 (ρ h1 15) = .inr (4, [.int o44_x0, .ref (ρ (ρ h1 15) 1), .int o44_x2]) := (hF259 _ (by rw [tp_iu y22]; decide)).trans hf_289
        have hf_291 : f277 (ρ h1 15) = .inr (4, [.int o44_x0, .ref (ρ (ρ h1 15) 1), .int o44_x2]) := (hF278 _ (by rw [tp_iu y22]; decide)).trans hf_290
        refine tpk_pos (tp_in hG y9 (by decide)) hf_o288 (fun q292 eq292 => ?_)
        have hFc := tp_fr hD hS hA
        have ro288_0 := tp_hu ro288_0; have ro288_1 := tp_hu ro288_1; have ro44_0 := tp_hu ro44_0; have ro44_1 := tp_hu ro44_1
        refine va_callv (va_runV (As := [.ref (ρ h1 15)]) (rest := []) ⟨hx, hb, hml, hown, hts⟩ (t_X4_copyFrom l dC dI _ Ω κ τ ν ρ L f277 hG hT (ρ h0 15) (ρ h1 15) y9 y22 o288_x0 o288_x2 hf_o288 o44_x0 o44_x2 hf_291 (by omega)) (cwV 1 hts gX10_copyFrom_X4_copyFrom rfl rfl rfl ⟨rfl, pd_X4_copyFrom⟩ ⟨Nat.le_of_ble_eq_true rfl, Nat.le_of_ble_eq_true rfl⟩) ⟨pz_blind, va_recv hK hP (ci := 4) (q0 := q292) rfl eq292, pz_pre hP hK hD hN⟩ rfl rfl hl.1 rfl (lv_room (Nat.le_of_ble_eq_true rfl)) dX10_copyFrom_215 ⟨Nat.le_of_ble_eq_true rfl, Nat.le_of_ble_eq_true rfl⟩) hS (fun q _ h => hFc q h) hFc (fun f295 t H1 locs ht hvm hw294 hB hz1 hk1 hS => ?_)
        refine tn_3 hw294 (fun hT hF296 hw294p => ?_); clear hw294
        have hR := hR.then hF296 (by decide)
        obtain ⟨hw294x, hw294p⟩ := hw294p
        have hX := hX.th hw294x (fun n q9 => by have q8 : n = ρ (ρ h0 15) 30 := q9; show (ρ h0 30 ≤ n ∧ n ≤ ρ h0 30 + 18); omega)
        have hP := hB.1; rw [ht] at hP; have hD := tp_ad f295 hD; clear hB hFc hz1 hk1; subst ht; generalize t.heap = H at hP hS ⊢
        refine tpk_5 hT y9 (fun o297_x0 o297_x2 hf_o297 ro297_0 ro297_1 => ?_)
        have ro297_1 := tp_hu ro297_1
        have tv298 : tp_fld (f295 (ρ h0 15)) 2 = o297_x2.toInt := by rw [hf_o297]; rfl
        have pl299 : (o297_x2.toInt = o44_x2.toInt) := by have q9 := hw294p; rw [tv298] at q9; exact q9
        refine lv_aload_n hx hb dX10_copyFrom_218 rfl (lv_at hl 1 rfl) ?_
        have hf_300 : f295 h0 = .inr (10, [.int o26_x0, .int o26_x1, .int o26_x2, .int o26_x3, .int o26_x4, .int o26_x5, .int o26_x6, .ref (ρ h0 7), .ref (ρ h0 8), .ref (ρ h0 9), .ref (ρ h0 10), .ref (ρ h0 11), .ref (ρ h0 12), .ref (ρ h0 13), .ref (ρ h0 14), .ref (ρ h0 15), .ref (ρ h0 16), .ref (ρ h0 17), .ref (ρ h0 18)]) := (hF296 _ (by rw [ht_h0]; decide)).trans hf_282
        refine tpk_pos (tp_in hG ht_h0 (by decide)) hf_300 (fun q301 eq301 => ?_)
        refine va_get (D := (dC, dI)) (ci := 10) (v := .ref (ρ h0 16)) (C := RX10) (T := TX10) (N := 19) hx hb hts hfX10 hown hK hP q301 eq301 rfl 16 (by decide) (hts (.fieldLink RX10 67 "ColdShips$World" "readings" "LColdShips$Rows;") wa_58) (fun _ h9 => h9) rfl dX10_copyFrom_219 ?_
        refine lv_aload_n hx hb dX10_copyFrom_222 rfl (lv_at hl 2 rfl) ?_
        have hf_302 : f295 h1 = .inr (10, [.int o26_x0, .int o26_x1, .int o26_x2, .int o26_x3, .int o26_x4, .int o26_x5, .int o26_x6, .ref (ρ h1 7), .ref (ρ h1 8), .ref (ρ h1 9), .ref (ρ h1 10), .ref (ρ h1 11), .ref (ρ h1 12), .ref (ρ h1 13), .ref (ρ h1 14), .ref (ρ h1 15), .ref (ρ h1 16), .ref (ρ h1 17), .ref (ρ h1 18)]) := (hF296 _ (by rw [ht_h1]; decide)).trans hf_284
        refine tpk_pos (tp_in hG ht_h1 (by decide)) hf_302 (fun q303 eq303 => ?_)
        refine va_get (D := (dC, dI)) (ci := 10) (v := .ref (ρ h1 16)) (C := RX10) (T := TX10) (N := 19) hx hb hts hfX10 hown hK hP q303 eq303 rfl 16 (by decide) (hts (.fieldLink RX10 67 "ColdShips$World" "readings" "LColdShips$Rows;") wa_58) (fun _ h9 => h9) rfl dX10_copyFrom_223 ?_
        refine tgk_5 hG y10 (fun y304 y304n y305a y305b y305c => ?_)
        refine tpk_5 hT y10 (fun o306_x0 o306_x2 hf_o306 ro306_0 ro306_1 => ?_)
        have hf_307 : f240 (ρ h1 16) = .inr (4, [.int o47_x0, .ref (ρ (ρ h1 16) 1), .int o47_x2]) := (hF241 _ (by rw [tp_iu y23]; decide)).trans hk223k
        have hf_308 : f258 (ρ h1 16) = .inr (4, [.int o47_x0, .ref (ρ (ρ h1 16) 1), .int o47_x2]) := (hF259 _ (by rw [tp_iu y23]; decide)).trans hf_307
        have hf_309 : f277 (ρ h1 16) = .inr (4, [.int o47_x0, .ref (ρ (ρ h1 16) 1), .int o47_x2]) := (hF278 _ (by rw [tp_iu y23]; decide)).trans hf_308
        have hf_310 : f295 (ρ h1 16) = .inr (4, [.int o47_x0, .ref (ρ (ρ h1 16) 1), .int o47_x2]) := (hw294x _ (by rw [tp_iu y23]; decide) (fun q9 => by have q8 : (ρ (ρ h1 16) 30) = ρ (ρ h0 15) 30 := q9; omega)).trans hf_309
        refine tpk_pos (tp_in hG y10 (by decide)) hf_o306 (fun q311 eq311 => ?_)
        have hFc := tp_fr hD hS hA
        have ro306_0 := tp_hu ro306_0; have ro306_1 := tp_hu ro306_1; have ro47_0 := tp_hu ro47_0; have ro47_1 := tp_hu ro47_1
        refine va_callv (va_runV (As := [.ref (ρ h1 16)]) (rest := []) ⟨hx, hb, hml, hown, hts⟩ (t_X4_copyFrom l dC dI _ Ω κ τ ν ρ L f295 hG hT (ρ h0 16) (ρ h1 16) y10 y23 o306_x0 o306_x2 hf_o306 o47_x0 o47_x2 hf_310 (by omega)) (cwV 1 hts gX10_copyFrom_X4_copyFrom rfl rfl rfl ⟨rfl, pd_X4_copyFrom⟩ ⟨Nat.le_of_ble_eq_true rfl, Nat.le_of_ble_eq_true rfl⟩) ⟨pz_blind, va_recv hK hP (ci := 4) (q0 := q311) rfl eq311, pz_pre hP hK hD hN⟩ rfl rfl hl.1 rfl (lv_room (Nat.le_of_ble_eq_true rfl)) dX10_copyFrom_226 ⟨Nat.le_of_ble_eq_true rfl, Nat.le_of_ble_eq_true rfl⟩) hS (fun q _ h => hFc q h) hFc (fun f314 t H1 locs ht hvm hw313 hB hz1 hk1 hS => ?_)
        refine tn_3 hw313 (fun hT hF315 hw313p => ?_); clear hw313
        have hR := hR.then hF315 (by decide)
        obtain ⟨hw313x, hw313p⟩ := hw313p
        have hX := hX.th hw313x (fun n q9 => by have q8 : n = ρ (ρ h0 16) 30 := q9; show (ρ h0 30 ≤ n ∧ n ≤ ρ h0 30 + 18); omega)
        have hP := hB.1; rw [ht] at hP; have hD := tp_ad f314 hD; clear hB hFc hz1 hk1; subst ht; generalize t.heap = H at hP hS ⊢
        refine tpk_5 hT y10 (fun o316_x0 o316_x2 hf_o316 ro316_0 ro316_1 => ?_)
        have ro316_1 := tp_hu ro316_1
        have tv317 : tp_fld (f314 (ρ h0 16)) 2 = o316_x2.toInt := by rw [hf_o316]; rfl
        have pl318 : (o316_x2.toInt = o47_x2.toInt) := by have q9 := hw313p; rw [tv317] at q9; exact q9
        refine lv_aload_n hx hb dX10_copyFrom_229 rfl (lv_at hl 1 rfl) ?_
        have hf_319 : f314 h0 = .inr (10, [.int o26_x0, .int o26_x1, .int o26_x2, .int o26_x3, .int o26_x4, .int o26_x5, .int o26_x6, .ref (ρ h0 7), .ref (ρ h0 8), .ref (ρ h0 9), .ref (ρ h0 10), .ref (ρ h0 11), .ref (ρ h0 12), .ref (ρ h0 13), .ref (ρ h0 14), .ref (ρ h0 15), .ref (ρ h0 16), .ref (ρ h0 17), .ref (ρ h0 18)]) := (hF315 _ (by rw [ht_h0]; decide)).trans hf_300
        refine tpk_pos (tp_in hG ht_h0 (by decide)) hf_319 (fun q320 eq320 => ?_)
        refine va_get (D := (dC, dI)) (ci := 10) (v := .ref (ρ h0 17)) (C := RX10) (T := TX10) (N := 19) hx hb hts hfX10 hown hK hP q320 eq320 rfl 17 (by decide) (hts (.fieldLink RX10 70 "ColdShips$World" "landings" "LColdShips$Rows;") wa_59) (fun _ h9 => h9) rfl dX10_copyFrom_230 ?_
        refine lv_aload_n hx hb dX10_copyFrom_233 rfl (lv_at hl 2 rfl) ?_
        have hf_321 : f314 h1 = .inr (10, [.int o26_x0, .int o26_x1, .int o26_x2, .int o26_x3, .int o26_x4, .int o26_x5, .int o26_x6, .ref (ρ h1 7), .ref (ρ h1 8), .ref (ρ h1 9), .ref (ρ h1 10), .ref (ρ h1 11), .ref (ρ h1 12), .ref (ρ h1 13), .ref (ρ h1 14), .ref (ρ h1 15), .ref (ρ h1 16), .ref (ρ h1 17), .ref (ρ h1 18)]) := (hF315 _ (by rw [ht_h1]; decide)).trans hf_302
        refine tpk_pos (tp_in hG ht_h1 (by decide)) hf_321 (fun q322 eq322 => ?_)
        refine va_get (D := (dC, dI)) (ci := 10) (v := .ref (ρ h1 17)) (C := RX10) (T := TX10) (N := 19) hx hb hts hfX10 hown hK hP q322 eq322 rfl 17 (by decide) (hts (.fieldLink RX10 70 "ColdShips$World" "landings" "LColdShips$Rows;") wa_59) (fun _ h9 => h9) rfl dX10_copyFrom_234 ?_
        refine tgk_5 hG y11 (fun y323 y323n y324a y324b y324c => ?_)
        refine tpk_5 hT y11 (fun o325_x0 o325_x2 hf_o325 ro325_0 ro325_1 => ?_)
        have hf_326 : f240 (ρ h1 17) = .inr (4, [.int o50_x0, .ref (ρ (ρ h1 17) 1), .int o50_x2]) := (hF241 _ (by rw [tp_iu y24]; decide)).trans hk224k
        have hf_327 : f258 (ρ h1 17) = .inr (4, [.int o50_x0, .ref (ρ (ρ h1 17) 1), .int o50_x2]) := (hF259 _ (by rw [tp_iu y24]; decide)).trans hf_326
        have hf_328 : f277 (ρ h1 17) = .inr (4, [.int o50_x0, .ref (ρ (ρ h1 17) 1), .int o50_x2]) := (hF278 _ (by rw [tp_iu y24]; decide)).trans hf_327
        have hf_329 : f295 (ρ h1 17) = .inr (4, [.int o50_x0, .ref (ρ (ρ h1 17) 1), .int o50_x2]) := (hw294x _ (by rw [tp_iu y24]; decide) (fun q9 => by have q8 : (ρ (ρ h1 17) 30) = ρ (ρ h0 15) 30 := q9; omega)).trans hf_328
        have hf_330 : f314 (ρ h1 17) = .inr (4, [.int o50_x0, .ref (ρ (ρ h1 17) 1), .int o50_x2]) := (hw313x _ (by rw [tp_iu y24]; decide) (fun q9 => by have q8 : (ρ (ρ h1 17) 30) = ρ (ρ h0 16) 30 := q9; omega)).trans hf_329
        refine tpk_pos (tp_in hG y11 (by decide)) hf_o325 (fun q331 eq331 => ?_)
        have hFc := tp_fr hD hS hA
        have ro325_0 := tp_hu ro325_0; have ro325_1 := tp_hu ro325_1; have ro50_0 := tp_hu ro50_0; have ro50_1 := tp_hu ro50_1
        refine va_callv (va_runV (As := [.ref (ρ h1 17)]) (rest := []) ⟨hx, hb, hml, hown, hts⟩ (t_X4_copyFrom l dC dI _ Ω κ τ ν ρ L f314 hG hT (ρ h0 17) (ρ h1 17) y11 y24 o325_x0 o325_x2 hf_o325 o50_x0 o50_x2 hf_330 (by omega)) (cwV 1 hts gX10_copyFrom_X4_copyFrom rfl rfl rfl ⟨rfl, pd_X4_copyFrom⟩ ⟨Nat.le_of_ble_eq_true rfl, Nat.le_of_ble_eq_true rfl⟩) ⟨pz_blind, va_recv hK hP (ci := 4) (q0 := q331) rfl eq331, pz_pre hP hK hD hN⟩ rfl rfl hl.1 rfl (lv_room (Nat.le_of_ble_eq_true rfl)) dX10_copyFrom_237 ⟨Nat.le_of_ble_eq_true rfl, Nat.le_of_ble_eq_true rfl⟩) hS (fun q _ h => hFc q h) hFc (fun f334 t H1 locs ht hvm hw333 hB hz1 hk1 hS => ?_)
        refine tn_3 hw333 (fun hT hF335 hw333p => ?_); clear hw333
        have hR := hR.then hF335 (by decide)
        obtain ⟨hw333x, hw333p⟩ := hw333p
        have hX := hX.th hw333x (fun n q9 => by have q8 : n = ρ (ρ h0 17) 30 := q9; show (ρ h0 30 ≤ n ∧ n ≤ ρ h0 30 + 18); omega)
        have hP := hB.1; rw [ht] at hP; have hD := tp_ad f334 hD; clear hB hFc hz1 hk1; subst ht; generalize t.heap = H at hP hS ⊢
        refine tpk_5 hT y11 (fun o336_x0 o336_x2 hf_o336 ro336_0 ro336_1 => ?_)
        have ro336_1 := tp_hu ro336_1
        have tv337 : tp_fld (f334 (ρ h0 17)) 2 = o336_x2.toInt := by rw [hf_o336]; rfl
        have pl338 : (o336_x2.toInt = o50_x2.toInt) := by have q9 := hw333p; rw [tv337] at q9; exact q9
        refine lv_aload_n hx hb dX10_copyFrom_240 rfl (lv_at hl 1 rfl) ?_
        have hf_339 : f334 h0 = .inr (10, [.int o26_x0, .int o26_x1, .int o26_x2, .int o26_x3, .int o26_x4, .int o26_x5, .int o26_x6, .ref (ρ h0 7), .ref (ρ h0 8), .ref (ρ h0 9), .ref (ρ h0 10), .ref (ρ h0 11), .ref (ρ h0 12), .ref (ρ h0 13), .ref (ρ h0 14), .ref (ρ h0 15), .ref (ρ h0 16), .ref (ρ h0 17), .ref (ρ h0 18)]) := (hF335 _ (by rw [ht_h0]; decide)).trans hf_319
        refine tpk_pos (tp_in hG ht_h0 (by decide)) hf_339 (fun q340 eq340 => ?_)
        refine va_get (D := (dC, dI)) (ci := 10) (v := .ref (ρ h0 18)) (C := RX10) (T := TX10) (N := 19) hx hb hts hfX10 hown hK hP q340 eq340 rfl 18 (by decide) (hts (.fieldLink RX10 73 "ColdShips$World" "cargoes" "LColdShips$Rows;") wa_60) (fun _ h9 => h9) rfl dX10_copyFrom_241 ?_
        refine lv_aload_n hx hb dX10_copyFrom_244 rfl (lv_at hl 2 rfl) ?_
        have hf_341 : f334 h1 = .inr (10, [.int o26_x0, .int o26_x1, .int o26_x2, .int o26_x3, .int o26_x4, .int o26_x5, .int o26_x6, .ref (ρ h1 7), .ref (ρ h1 8), .ref (ρ h1 9), .ref (ρ h1 10), .ref (ρ h1 11), .ref (ρ h1 12), .ref (ρ h1 13), .ref (ρ h1 14), .ref (ρ h1 15), .ref (ρ h1 16), .ref (ρ h1 17), .ref (ρ h1 18)]) := (hF335 _ (by rw [ht_h1]; decide)).trans hf_321
        refine tpk_pos (tp_in hG ht_h1 (by decide)) hf_341 (fun q342 eq342 => ?_)
        refine va_get (D := (dC, dI)) (ci := 10) (v := .ref (ρ h1 18)) (C := RX10) (T := TX10) (N := 19) hx hb hts hfX10 hown hK hP q342 eq342 rfl 18 (by decide) (hts (.fieldLink RX10 73 "ColdShips$World" "cargoes" "LColdShips$Rows;") wa_60) (fun _ h9 => h9) rfl dX10_copyFrom_245 ?_
        refine tgk_5 hG y12 (fun y343 y343n y344a y344b y344c => ?_)
        refine tpk_5 hT y12 (fun o345_x0 o345_x2 hf_o345 ro345_0 ro345_1 => ?_)
        have hf_346 : f240 (ρ h1 18) = .inr (4, [.int o53_x0, .ref (ρ (ρ h1 18) 1), .int o53_x2]) := (hF241 _ (by rw [tp_iu y25]; decide)).trans hk225k
        have hf_347 : f258 (ρ h1 18) = .inr (4, [.int o53_x0, .ref (ρ (ρ h1 18) 1), .int o53_x2]) := (hF259 _ (by rw [tp_iu y25]; decide)).trans hf_346
        have hf_348 : f277 (ρ h1 18) = .inr (4, [.int o53_x0, .ref (ρ (ρ h1 18) 1), .int o53_x2]) := (hF278 _ (by rw [tp_iu y25]; decide)).trans hf_347
        have hf_349 : f295 (ρ h1 18) = .inr (4, [.int o53_x0, .ref (ρ (ρ h1 18) 1), .int o53_x2]) := (hw294x _ (by rw [tp_iu y25]; decide) (fun q9 => by have q8 : (ρ (ρ h1 18) 30) = ρ (ρ h0 15) 30 := q9; omega)).trans hf_348
        have hf_350 : f314 (ρ h1 18) = .inr (4, [.int o53_x0, .ref (ρ (ρ h1 18) 1), .int o53_x2]) := (hw313x _ (by rw [tp_iu y25]; decide) (fun q9 => by have q8 : (ρ (ρ h1 18) 30) = ρ (ρ h0 16) 30 := q9; omega)).trans hf_349
        have hf_351 : f334 (ρ h1 18) = .inr (4, [.int o53_x0, .ref (ρ (ρ h1 18) 1), .int o53_x2]) := (hw333x _ (by rw [tp_iu y25]; decide) (fun q9 => by have q8 : (ρ (ρ h1 18) 30) = ρ (ρ h0 17) 30 := q9; omega)).trans hf_350
        refine tpk_pos (tp_in hG y12 (by decide)) hf_o345 (fun q352 eq352 => ?_)
        have hFc := tp_fr hD hS hA
        have ro345_0 := tp_hu ro345_0; have ro345_1 := tp_hu ro345_1; have ro53_0 := tp_hu ro53_0; have ro53_1 := tp_hu ro53_1
        refine va_callv (va_runV (As := [.ref (ρ h1 18)]) (rest := []) ⟨hx, hb, hml, hown, hts⟩ (t_X4_copyFrom l dC dI _ Ω κ τ ν ρ L f334 hG hT (ρ h0 18) (ρ h1 18) y12 y25 o345_x0 o345_x2 hf_o345 o53_x0 o53_x2 hf_351 (by omega)) (cwV 1 hts gX10_copyFrom_X4_copyFrom rfl rfl rfl ⟨rfl, pd_X4_copyFrom⟩ ⟨Nat.le_of_ble_eq_true rfl, Nat.le_of_ble_eq_true rfl⟩) ⟨pz_blind, va_recv hK hP (ci := 4) (q0 := q352) rfl eq352, pz_pre hP hK hD hN⟩ rfl rfl hl.1 rfl (lv_room (Nat.le_of_ble_eq_true rfl)) dX10_copyFrom_248 ⟨Nat.le_of_ble_eq_true rfl, Nat.le_of_ble_eq_true rfl⟩) hS (fun q _ h => hFc q h) hFc (fun f355 t H1 locs ht hvm hw354 hB hz1 hk1 hS => ?_)
        refine tn_3 hw354 (fun hT hF356 hw354p => ?_); clear hw354
        have hR := hR.then hF356 (by decide)
        obtain ⟨hw354x, hw354p⟩ := hw354p
        have hX := hX.th hw354x (fun n q9 => by have q8 : n = ρ (ρ h0 18) 30 := q9; show (ρ h0 30 ≤ n ∧ n ≤ ρ h0 30 + 18); omega)
        have hP := hB.1; rw [ht] at hP; have hD := tp_ad f355 hD; clear hB hFc hz1 hk1; subst ht; generalize t.heap = H at hP hS ⊢
        refine tpk_5 hT y12 (fun o357_x0 o357_x2 hf_o357 ro357_0 ro357_1 => ?_)
        have ro357_1 := tp_hu ro357_1
        have tv358 : tp_fld (f355 (ρ h0 18)) 2 = o357_x2.toInt := by rw [hf_o357]; rfl
        have pl359 : (o357_x2.toInt = o53_x2.toInt) := by have q9 := hw354p; rw [tv358] at q9; exact q9
        have hf_360 : f355 h0 = .inr (10, [.int o26_x0, .int o26_x1, .int o26_x2, .int o26_x3, .int o26_x4, .int o26_x5, .int o26_x6, .ref (ρ h0 7), .ref (ρ h0 8), .ref (ρ h0 9), .ref (ρ h0 10), .ref (ρ h0 11), .ref (ρ h0 12), .ref (ρ h0 13), .ref (ρ h0 14), .ref (ρ h0 15), .ref (ρ h0 16), .ref (ρ h0 17), .ref (ρ h0 18)]) := (hF356 _ (by rw [ht_h0]; decide)).trans hf_339
        have tv361 : tp_fld (f355 h0) 0 = o26_x0.toInt := by rw [hf_360]; rfl
        have tv362 : tp_fld (f h1) 0 = o26_x0.toInt := by rw [hf_o26]; rfl
        have tv363 : tp_fld (f355 h0) 1 = o26_x1.toInt := by rw [hf_360]; rfl
        have tv364 : tp_fld (f h1) 1 = o26_x1.toInt := by rw [hf_o26]; rfl
        have tv365 : tp_fld (f355 h0) 2 = o26_x2.toInt := by rw [hf_360]; rfl
        have tv366 : tp_fld (f h1) 2 = o26_x2.toInt := by rw [hf_o26]; rfl
        have tv367 : tp_fld (f355 h0) 3 = o26_x3.toInt := by rw [hf_360]; rfl
        have tv368 : tp_fld (f h1) 3 = o26_x3.toInt := by rw [hf_o26]; rfl
        have tv369 : tp_fld (f355 h0) 4 = o26_x4.toInt := by rw [hf_360]; rfl
        have tv370 : tp_fld (f h1) 4 = o26_x4.toInt := by rw [hf_o26]; rfl
        have tv371 : tp_fld (f355 h0) 5 = o26_x5.toInt := by rw [hf_360]; rfl
        have tv372 : tp_fld (f h1) 5 = o26_x5.toInt := by rw [hf_o26]; rfl
        have tv373 : tp_fld (f355 h0) 6 = o26_x6.toInt := by rw [hf_360]; rfl
        have tv374 : tp_fld (f h1) 6 = o26_x6.toInt := by rw [hf_o26]; rfl
        have hf_375 : f258 (ρ h0 12) = .inr (6, [.ref (ρ (ρ h0 12) 0), .ref (ρ (ρ h0 12) 1), .ref (ρ (ρ h0 12) 2), .int o242_x3]) := (hw257x _ (by rw [tp_iu y6]; decide) (fun q9 => by have q8 : (ρ (ρ h0 12) 30) = ρ (ρ h0 13) 30 := q9; omega)).trans hf_o242
        have hf_376 : f277 (ρ h0 12) = .inr (6, [.ref (ρ (ρ h0 12) 0), .ref (ρ (ρ h0 12) 1), .ref (ρ (ρ h0 12) 2), .int o242_x3]) := (hw276x _ (by rw [tp_iu y6]; decide) (fun q9 => by have q8 : (ρ (ρ h0 12) 30) = ρ (ρ h0 14) 30 := q9; omega)).trans hf_375
        have hf_377 : f295 (ρ h0 12) = .inr (6, [.ref (ρ (ρ h0 12) 0), .ref (ρ (ρ h0 12) 1), .ref (ρ (ρ h0 12) 2), .int o242_x3]) := (hF296 _ (by rw [tp_iu y6]; decide)).trans hf_376
        have hf_378 : f314 (ρ h0 12) = .inr (6, [.ref (ρ (ρ h0 12) 0), .ref (ρ (ρ h0 12) 1), .ref (ρ (ρ h0 12) 2), .int o242_x3]) := (hF315 _ (by rw [tp_iu y6]; decide)).trans hf_377
        have hf_379 : f334 (ρ h0 12) = .inr (6, [.ref (ρ (ρ h0 12) 0), .ref (ρ (ρ h0 12) 1), .ref (ρ (ρ h0 12) 2), .int o242_x3]) := (hF335 _ (by rw [tp_iu y6]; decide)).trans hf_378
        have hf_380 : f355 (ρ h0 12) = .inr (6, [.ref (ρ (ρ h0 12) 0), .ref (ρ (ρ h0 12) 1), .ref (ρ (ρ h0 12) 2), .int o242_x3]) := (hF356 _ (by rw [tp_iu y6]; decide)).trans hf_379
        have tv381 : tp_fld (f355 (ρ h0 12)) 3 = o242_x3.toInt := by rw [hf_380]; rfl
        have tv382 : tp_fld (f (ρ h1 12)) 3 = o31_x3.toInt := by rw [hf_o31]; rfl
        have hf_383 : f277 (ρ h0 13) = .inr (6, [.ref (ρ (ρ h0 13) 0), .ref (ρ (ρ h0 13) 1), .ref (ρ (ρ h0 13) 2), .int o260_x3]) := (hw276x _ (by rw [tp_iu y7]; decide) (fun q9 => by have q8 : (ρ (ρ h0 13) 30) = ρ (ρ h0 14) 30 := q9; omega)).trans hf_o260
        have hf_384 : f295 (ρ h0 13) = .inr (6, [.ref (ρ (ρ h0 13) 0), .ref (ρ (ρ h0 13) 1), .ref (ρ (ρ h0 13) 2), .int o260_x3]) := (hF296 _ (by rw [tp_iu y7]; decide)).trans hf_383
        have hf_385 : f314 (ρ h0 13) = .inr (6, [.ref (ρ (ρ h0 13) 0), .ref (ρ (ρ h0 13) 1), .ref (ρ (ρ h0 13) 2), .int o260_x3]) := (hF315 _ (by rw [tp_iu y7]; decide)).trans hf_384
        have hf_386 : f334 (ρ h0 13) = .inr (6, [.ref (ρ (ρ h0 13) 0), .ref (ρ (ρ h0 13) 1), .ref (ρ (ρ h0 13) 2), .int o260_x3]) := (hF335 _ (by rw [tp_iu y7]; decide)).trans hf_385
        have hf_387 : f355 (ρ h0 13) = .inr (6, [.ref (ρ (ρ h0 13) 0), .ref (ρ (ρ h0 13) 1), .ref (ρ (ρ h0 13) 2), .int o260_x3]) := (hF356 _ (by rw [tp_iu y7]; decide)).trans hf_386
        have tv388 : tp_fld (f355 (ρ h0 13)) 3 = o260_x3.toInt := by rw [hf_387]; rfl
        have tv389 : tp_fld (f (ρ h1 13)) 3 = o36_x3.toInt := by rw [hf_o36]; rfl
        have hf_390 : f295 (ρ h0 14) = .inr (6, [.ref (ρ (ρ h0 14) 0), .ref (ρ (ρ h0 14) 1), .ref (ρ (ρ h0 14) 2), .int o279_x3]) := (hF296 _ (by rw [tp_iu y8]; decide)).trans hf_o279
        have hf_391 : f314 (ρ h0 14) = .inr (6, [.ref (ρ (ρ h0 14) 0), .ref (ρ (ρ h0 14) 1), .ref (ρ (ρ h0 14) 2), .int o279_x3]) := (hF315 _ (by rw [tp_iu y8]; decide)).trans hf_390
        have hf_392 : f334 (ρ h0 14) = .inr (6, [.ref (ρ (ρ h0 14) 0), .ref (ρ (ρ h0 14) 1), .ref (ρ (ρ h0 14) 2), .int o279_x3]) := (hF335 _ (by rw [tp_iu y8]; decide)).trans hf_391
        have hf_393 : f355 (ρ h0 14) = .inr (6, [.ref (ρ (ρ h0 14) 0), .ref (ρ (ρ h0 14) 1), .ref (ρ (ρ h0 14) 2), .int o279_x3]) := (hF356 _ (by rw [tp_iu y8]; decide)).trans hf_392
        have tv394 : tp_fld (f355 (ρ h0 14)) 3 = o279_x3.toInt := by rw [hf_393]; rfl
        have tv395 : tp_fld (f (ρ h1 14)) 3 = o41_x3.toInt := by rw [hf_o41]; rfl
        have hf_396 : f314 (ρ h0 15) = .inr (4, [.int o297_x0, .ref (ρ (ρ h0 15) 1), .int o297_x2]) := (hw313x _ (by rw [tp_iu y9]; decide) (fun q9 => by have q8 : (ρ (ρ h0 15) 30) = ρ (ρ h0 16) 30 := q9; omega)).trans hf_o297
        have hf_397 : f334 (ρ h0 15) = .inr (4, [.int o297_x0, .ref (ρ (ρ h0 15) 1), .int o297_x2]) := (hw333x _ (by rw [tp_iu y9]; decide) (fun q9 => by have q8 : (ρ (ρ h0 15) 30) = ρ (ρ h0 17) 30 := q9; omega)).trans hf_396
        have hf_398 : f355 (ρ h0 15) = .inr (4, [.int o297_x0, .ref (ρ (ρ h0 15) 1), .int o297_x2]) := (hw354x _ (by rw [tp_iu y9]; decide) (fun q9 => by have q8 : (ρ (ρ h0 15) 30) = ρ (ρ h0 18) 30 := q9; omega)).trans hf_397
        have tv399 : tp_fld (f355 (ρ h0 15)) 2 = o297_x2.toInt := by rw [hf_398]; rfl
        have tv400 : tp_fld (f (ρ h1 15)) 2 = o44_x2.toInt := by rw [hf_o44]; rfl
        have hf_401 : f334 (ρ h0 16) = .inr (4, [.int o316_x0, .ref (ρ (ρ h0 16) 1), .int o316_x2]) := (hw333x _ (by rw [tp_iu y10]; decide) (fun q9 => by have q8 : (ρ (ρ h0 16) 30) = ρ (ρ h0 17) 30 := q9; omega)).trans hf_o316
        have hf_402 : f355 (ρ h0 16) = .inr (4, [.int o316_x0, .ref (ρ (ρ h0 16) 1), .int o316_x2]) := (hw354x _ (by rw [tp_iu y10]; decide) (fun q9 => by have q8 : (ρ (ρ h0 16) 30) = ρ (ρ h0 18) 30 := q9; omega)).trans hf_401
        have tv403 : tp_fld (f355 (ρ h0 16)) 2 = o316_x2.toInt := by rw [hf_402]; rfl
        have tv404 : tp_fld (f (ρ h1 16)) 2 = o47_x2.toInt := by rw [hf_o47]; rfl
        have hf_405 : f355 (ρ h0 17) = .inr (4, [.int o336_x0, .ref (ρ (ρ h0 17) 1), .int o336_x2]) := (hw354x _ (by rw [tp_iu y11]; decide) (fun q9 => by have q8 : (ρ (ρ h0 17) 30) = ρ (ρ h0 18) 30 := q9; omega)).trans hf_o336
        have tv406 : tp_fld (f355 (ρ h0 17)) 2 = o336_x2.toInt := by rw [hf_405]; rfl
        have tv407 : tp_fld (f (ρ h1 17)) 2 = o50_x2.toInt := by rw [hf_o50]; rfl
        have tv408 : tp_fld (f355 (ρ h0 18)) 2 = o357_x2.toInt := by rw [hf_o357]; rfl
        have tv409 : tp_fld (f (ρ h1 18)) 2 = o53_x2.toInt := by rw [hf_o53]; rfl
        exact W.vret hx hb hr (fun t ht hW => ⟨⟨f355, rfl, ⟨hT, hR, ⟨hX, (by rw [tv361, tv362, tv363, tv364, tv365, tv366, tv367, tv368, tv369, tv370, tv371, tv372, tv373, tv374, tv381, tv382, tv388, tv389, tv394, tv395, tv399, tv400, tv403, tv404, tv406, tv407, tv408, tv409]; exact ⟨(by omega), (by omega), (by omega), (by omega), (by omega), (by omega), (by omega), (by omega), (by omega), (by omega), (by omega), (by omega), (by omega), (by omega)⟩)⟩⟩, by rw [ht]; exact hP, va_K.moved hW.alike hK, hD⟩, hS.F ht⟩) hS.2.2 dX10_copyFrom_251
      · have ic230 : w216.toInt < o26_x5.toInt := zi_gef rfl rfl c230
        refine lv_aload_n hx hb dX10_copyFrom_153 rfl (lv_at hl 1 rfl) ?_
        refine va_get (D := (dC, dI)) (ci := 10) (v := .ref (ρ h0 10)) (C := RX10) (T := TX10) (N := 19) hx hb hts hfX10 hown hK hP q229 eq229 rfl 10 (by decide) (hts (.fieldLink RX10 33 "ColdShips$World" "ships" "[LColdShips$Ship;") wa_45) (fun _ h9 => h9) rfl dX10_copyFrom_154 ?_
        refine lv_iload_n hx hb dX10_copyFrom_157 rfl (lv_at hl 0 rfl) ?_
        refine tpk_25 hT y4 (fun g411 hf_o410 hf_o410e => ?_)
        refine tpk_pos (tp_in hG y4 (by decide)) hf_o410 (fun q412 eq412 => ?_)
        refine va_aldq hx hb hK hP q412 5 eq412 rfl (vp_in_iff.mpr ⟨by omega, by omega⟩) dX10_copyFrom_158 ?_
        obtain ⟨b413, hb414⟩ : ∃ b : Nat, b = ρ (ρ h0 10) w216.toNatClampNeg := ⟨_, rfl⟩
        have hb414t : τ b413 = 6 := by rw [hb414]; exact tpg_25 hG y4 _ (zi_cl (vp_in_iff.mpr ⟨by omega, by omega⟩))
        have hb414g : g411 w216.toNatClampNeg = some b413 := by rw [hb414]; exact hf_o410e _ (zi_cl (vp_in_iff.mpr ⟨by omega, by omega⟩))
        refine W.eq (g2 := F0 m 159 ls (.ref b413 :: [])) (congrArg (fun o => F0 m 159 ls (va_rf o :: [])) hb414g) ?_
        refine lv_aload_n hx hb dX10_copyFrom_159 rfl (lv_at hl 2 rfl) ?_
        refine tpk_pos (tp_in hG ht_h1 (by decide)) hk218k (fun q415 eq415 => ?_)
        refine va_get (D := (dC, dI)) (ci := 10) (v := .ref (ρ h1 10)) (C := RX10) (T := TX10) (N := 19) hx hb hts hfX10 hown hK hP q415 eq415 rfl 10 (by decide) (hts (.fieldLink RX10 33 "ColdShips$World" "ships" "[LColdShips$Ship;") wa_45) (fun _ h9 => h9) rfl dX10_copyFrom_160 ?_
        refine lv_iload_n hx hb dX10_copyFrom_163 rfl (lv_at hl 0 rfl) ?_
        refine tpk_25 hT y17 (fun g417 hf_o416 hf_o416e => ?_)
        refine tpk_pos (tp_in hG y17 (by decide)) hf_o416 (fun q418 eq418 => ?_)
        refine va_aldq hx hb hK hP q418 5 eq418 rfl (vp_in_iff.mpr ⟨by omega, by omega⟩) dX10_copyFrom_164 ?_
        obtain ⟨b419, hb420⟩ : ∃ b : Nat, b = ρ (ρ h1 10) w216.toNatClampNeg := ⟨_, rfl⟩
        have hb420t : τ b419 = 6 := by rw [hb420]; exact tpg_25 hG y17 _ (zi_cl (vp_in_iff.mpr ⟨by omega, by omega⟩))
        have hb420g : g417 w216.toNatClampNeg = some b419 := by rw [hb420]; exact hf_o416e _ (zi_cl (vp_in_iff.mpr ⟨by omega, by omega⟩))
        refine W.eq (g2 := F0 m 165 ls (.ref b419 :: [.ref b413])) (congrArg (fun o => F0 m 165 ls (va_rf o :: [.ref b413])) hb420g) ?_
        refine tgk_6 hG hb414t (fun y421 y422 y422n y423 y423n y424 y424n y425 y425n y426 y426n y427 y427n => ?_)
        refine tpk_6 hT hb414t (fun o428_x1 o428_x2 o428_x3 o428_x4 o428_x5 o428_x6 o428_x10 o428_x11 o428_x12 o428_x14 hf_o428 ro428_0 ro428_1 ro428_2 => ?_)
        refine tpk_pos (tp_in hG hb414t (by decide)) hf_o428 (fun q429 eq429 => ?_)
        have hFc := tp_fr hD hS hA
        refine va_callv (va_runV (As := [.ref b419]) (rest := []) ⟨hx, hb, hml, hown, hts⟩ (t_X5_copyFrom l dC dI _ Ω κ τ ν ρ L f226 hG hT b413 b419 hb414t hb420t) (cwV 1 hts gX10_copyFrom_X5_copyFrom rfl rfl rfl ⟨rfl, pd_X5_copyFrom⟩ ⟨Nat.le_of_ble_eq_true rfl, Nat.le_of_ble_eq_true rfl⟩) ⟨pz_blind, va_recv hK hP (ci := 5) (q0 := q429) rfl eq429, pz_pre hP hK hD hN⟩ rfl rfl hl.1 rfl (lv_room (Nat.le_of_ble_eq_true rfl)) dX10_copyFrom_165 ⟨Nat.le_of_ble_eq_true rfl, Nat.le_of_ble_eq_true rfl⟩) hS (fun q _ h => hFc q h) hFc (fun f432 t H1 locs ht hvm hw431 hB hz1 hk1 hS => ?_)
        refine tn_3 hw431 (fun hT hF433 hw431p => ?_); clear hw431
        have hR := hR.then hF433 (by decide)
        have hX := hX.fr hF433 (by decide)
        have hP := hB.1; rw [ht] at hP; have hD := tp_ad f432 hD; clear hB hFc hz1 hk1; subst ht; generalize t.heap = H at hP hS ⊢
        obtain ⟨z434, ez434⟩ : ∃ y : Int32, y = w216 + 1 := ⟨_, rfl⟩
        refine lv_iinc (v := z434) (lv' := [(2, .int z434), (0, .ref h0), (1, .ref h1)]) hx hb dX10_copyFrom_168 hl (k := 0) rfl (by rw [ez434]; rfl) (by decide) rfl (fun ls hl => ?_)
        have iz434 : z434.toInt = w216.toInt + 1 := zi_add ez434 rfl rfl (by omega) (by omega)
        refine lv_goto (tgt := 145) hx hb dX10_copyFrom_171 (by decide) ?_
        have hf_435 : f432 h0 = .inr (10, [.int o26_x0, .int o26_x1, .int o26_x2, .int o26_x3, .int o26_x4, .int o26_x5, .int o26_x6, .ref (ρ h0 7), .ref (ρ h0 8), .ref (ρ h0 9), .ref (ρ h0 10), .ref (ρ h0 11), .ref (ρ h0 12), .ref (ρ h0 13), .ref (ρ h0 14), .ref (ρ h0 15), .ref (ρ h0 16), .ref (ρ h0 17), .ref (ρ h0 18)]) := (hF433 _ (by rw [ht_h0]; decide)).trans hk217k
        have hf_436 : f432 h1 = .inr (10, [.int o26_x0, .int o26_x1, .int o26_x2, .int o26_x3, .int o26_x4, .int o26_x5, .int o26_x6, .ref (ρ h1 7), .ref (ρ h1 8), .ref (ρ h1 9), .ref (ρ h1 10), .ref (ρ h1 11), .ref (ρ h1 12), .ref (ρ h1 13), .ref (ρ h1 14), .ref (ρ h1 15), .ref (ρ h1 16), .ref (ρ h1 17), .ref (ρ h1 18)]) := (hF433 _ (by rw [ht_h1]; decide)).trans hk218k
        have hf_437 : f432 (ρ h1 12) = .inr (6, [.ref (ρ (ρ h1 12) 0), .ref (ρ (ρ h1 12) 1), .ref (ρ (ρ h1 12) 2), .int o31_x3]) := (hF433 _ (by rw [tp_iu y19]; decide)).trans hk219k
        have hf_438 : f432 (ρ h1 13) = .inr (6, [.ref (ρ (ρ h1 13) 0), .ref (ρ (ρ h1 13) 1), .ref (ρ (ρ h1 13) 2), .int o36_x3]) := (hF433 _ (by rw [tp_iu y20]; decide)).trans hk220k
        have hf_439 : f432 (ρ h1 14) = .inr (6, [.ref (ρ (ρ h1 14) 0), .ref (ρ (ρ h1 14) 1), .ref (ρ (ρ h1 14) 2), .int o41_x3]) := (hF433 _ (by rw [tp_iu y21]; decide)).trans hk221k
        have hf_440 : f432 (ρ h1 15) = .inr (4, [.int o44_x0, .ref (ρ (ρ h1 15) 1), .int o44_x2]) := (hF433 _ (by rw [tp_iu y22]; decide)).trans hk222k
        have hf_441 : f432 (ρ h1 16) = .inr (4, [.int o47_x0, .ref (ρ (ρ h1 16) 1), .int o47_x2]) := (hF433 _ (by rw [tp_iu y23]; decide)).trans hk223k
        have hf_442 : f432 (ρ h1 17) = .inr (4, [.int o50_x0, .ref (ρ (ρ h1 17) 1), .int o50_x2]) := (hF433 _ (by rw [tp_iu y24]; decide)).trans hk224k
        have hf_443 : f432 (ρ h1 18) = .inr (4, [.int o53_x0, .ref (ρ (ρ h1 18) 1), .int o53_x2]) := (hF433 _ (by rw [tp_iu y25]; decide)).trans hk225k
        exact ih227 _ _ _ _ (by rw [hn228]; omega) ⟨f432, z434, rfl, hT, hR, hX, hf_435, hf_436, hf_437, hf_438, hf_439, hf_440, hf_441, hf_442, hf_443, (by omega), hP, hD, hS, lv_sub hl [0, 1, 2] rfl⟩
    · have ic215 : w201.toInt < o26_x4.toInt := zi_gef rfl rfl c215
      refine lv_aload_n hx hb dX10_copyFrom_122 rfl (lv_at hl 1 rfl) ?_
      refine va_get (D := (dC, dI)) (ci := 10) (v := .ref (ρ h0 9)) (C := RX10) (T := TX10) (N := 19) hx hb hts hfX10 hown hK hP q214 eq214 rfl 9 (by decide) (hts (.fieldLink RX10 27 "ColdShips$World" "terminals" "[LColdShips$Terminal;") wa_43) (fun _ h9 => h9) rfl dX10_copyFrom_123 ?_
      refine lv_iload_n hx hb dX10_copyFrom_126 rfl (lv_at hl 0 rfl) ?_
      refine tpk_24 hT y3 (fun g445 hf_o444 hf_o444e => ?_)
      refine tpk_pos (tp_in hG y3 (by decide)) hf_o444 (fun q446 eq446 => ?_)
      refine va_aldq hx hb hK hP q446 4 eq446 rfl (vp_in_iff.mpr ⟨by omega, by omega⟩) dX10_copyFrom_127 ?_
      obtain ⟨b447, hb448⟩ : ∃ b : Nat, b = ρ (ρ h0 9) w201.toNatClampNeg := ⟨_, rfl⟩
      have hb448t : τ b447 = 9 := by rw [hb448]; exact tpg_24 hG y3 _ (zi_cl (vp_in_iff.mpr ⟨by omega, by omega⟩))
      have hb448g : g445 w201.toNatClampNeg = some b447 := by rw [hb448]; exact hf_o444e _ (zi_cl (vp_in_iff.mpr ⟨by omega, by omega⟩))
      refine W.eq (g2 := F0 m 128 ls (.ref b447 :: [])) (congrArg (fun o => F0 m 128 ls (va_rf o :: [])) hb448g) ?_
      refine lv_aload_n hx hb dX10_copyFrom_128 rfl (lv_at hl 2 rfl) ?_
      refine tpk_pos (tp_in hG ht_h1 (by decide)) hk203k (fun q449 eq449 => ?_)
      refine va_get (D := (dC, dI)) (ci := 10) (v := .ref (ρ h1 9)) (C := RX10) (T := TX10) (N := 19) hx hb hts hfX10 hown hK hP q449 eq449 rfl 9 (by decide) (hts (.fieldLink RX10 27 "ColdShips$World" "terminals" "[LColdShips$Terminal;") wa_43) (fun _ h9 => h9) rfl dX10_copyFrom_129 ?_
      refine lv_iload_n hx hb dX10_copyFrom_132 rfl (lv_at hl 0 rfl) ?_
      refine tpk_24 hT y16 (fun g451 hf_o450 hf_o450e => ?_)
      refine tpk_pos (tp_in hG y16 (by decide)) hf_o450 (fun q452 eq452 => ?_)
      refine va_aldq hx hb hK hP q452 4 eq452 rfl (vp_in_iff.mpr ⟨by omega, by omega⟩) dX10_copyFrom_133 ?_
      obtain ⟨b453, hb454⟩ : ∃ b : Nat, b = ρ (ρ h1 9) w201.toNatClampNeg := ⟨_, rfl⟩
      have hb454t : τ b453 = 9 := by rw [hb454]; exact tpg_24 hG y16 _ (zi_cl (vp_in_iff.mpr ⟨by omega, by omega⟩))
      have hb454g : g451 w201.toNatClampNeg = some b453 := by rw [hb454]; exact hf_o450e _ (zi_cl (vp_in_iff.mpr ⟨by omega, by omega⟩))
      refine W.eq (g2 := F0 m 134 ls (.ref b453 :: [.ref b447])) (congrArg (fun o => F0 m 134 ls (va_rf o :: [.ref b447])) hb454g) ?_
      refine tgk_9 hG hb448t (fun y455 y455n y456 y456n => ?_)
      refine tpk_9 hT hb448t (fun o457_x0 o457_x1 o457_x2 o457_x3 o457_x4 hf_o457 ro457_0 => ?_)
      refine tpk_pos (tp_in hG hb448t (by decide)) hf_o457 (fun q458 eq458 => ?_)
      have hFc := tp_fr hD hS hA
      refine va_callv (va_runV (As := [.ref b453]) (rest := []) ⟨hx, hb, hml, hown, hts⟩ (t_X8_copyFrom l dC dI _ Ω κ τ ν ρ L f211 hG hT b447 b453 hb448t hb454t) (cwV 1 hts gX10_copyFrom_X8_copyFrom rfl rfl rfl ⟨rfl, pd_X8_copyFrom⟩ ⟨Nat.le_of_ble_eq_true rfl, Nat.le_of_ble_eq_true rfl⟩) ⟨pz_blind, va_recv hK hP (ci := 8) (q0 := q458) rfl eq458, pz_pre hP hK hD hN⟩ rfl rfl hl.1 rfl (lv_room (Nat.le_of_ble_eq_true rfl)) dX10_copyFrom_134 ⟨Nat.le_of_ble_eq_true rfl, Nat.le_of_ble_eq_true rfl⟩) hS (fun q _ h => hFc q h) hFc (fun f461 t H1 locs ht hvm hw460 hB hz1 hk1 hS => ?_)
      refine tn_3 hw460 (fun hT hF462 hw460p => ?_); clear hw460
      have hR := hR.then hF462 (by decide)
      have hX := hX.fr hF462 (by decide)
      have hP := hB.1; rw [ht] at hP; have hD := tp_ad f461 hD; clear hB hFc hz1 hk1; subst ht; generalize t.heap = H at hP hS ⊢
      obtain ⟨z463, ez463⟩ : ∃ y : Int32, y = w201 + 1 := ⟨_, rfl⟩
      refine lv_iinc (v := z463) (lv' := [(2, .int z463), (0, .ref h0), (1, .ref h1)]) hx hb dX10_copyFrom_137 hl (k := 0) rfl (by rw [ez463]; rfl) (by decide) rfl (fun ls hl => ?_)
      have iz463 : z463.toInt = w201.toInt + 1 := zi_add ez463 rfl rfl (by omega) (by omega)
      refine lv_goto (tgt := 114) hx hb dX10_copyFrom_140 (by decide) ?_
      have hf_464 : f461 h0 = .inr (10, [.int o26_x0, .int o26_x1, .int o26_x2, .int o26_x3, .int o26_x4, .int o26_x5, .int o26_x6, .ref (ρ h0 7), .ref (ρ h0 8), .ref (ρ h0 9), .ref (ρ h0 10), .ref (ρ h0 11), .ref (ρ h0 12), .ref (ρ h0 13), .ref (ρ h0 14), .ref (ρ h0 15), .ref (ρ h0 16), .ref (ρ h0 17), .ref (ρ h0 18)]) := (hF462 _ (by rw [ht_h0]; decide)).trans hk202k
      have hf_465 : f461 h1 = .inr (10, [.int o26_x0, .int o26_x1, .int o26_x2, .int o26_x3, .int o26_x4, .int o26_x5, .int o26_x6, .ref (ρ h1 7), .ref (ρ h1 8), .ref (ρ h1 9), .ref (ρ h1 10), .ref (ρ h1 11), .ref (ρ h1 12), .ref (ρ h1 13), .ref (ρ h1 14), .ref (ρ h1 15), .ref (ρ h1 16), .ref (ρ h1 17), .ref (ρ h1 18)]) := (hF462 _ (by rw [ht_h1]; decide)).trans hk203k
      have hf_466 : f461 (ρ h1 12) = .inr (6, [.ref (ρ (ρ h1 12) 0), .ref (ρ (ρ h1 12) 1), .ref (ρ (ρ h1 12) 2), .int o31_x3]) := (hF462 _ (by rw [tp_iu y19]; decide)).trans hk204k
      have hf_467 : f461 (ρ h1 13) = .inr (6, [.ref (ρ (ρ h1 13) 0), .ref (ρ (ρ h1 13) 1), .ref (ρ (ρ h1 13) 2), .int o36_x3]) := (hF462 _ (by rw [tp_iu y20]; decide)).trans hk205k
      have hf_468 : f461 (ρ h1 14) = .inr (6, [.ref (ρ (ρ h1 14) 0), .ref (ρ (ρ h1 14) 1), .ref (ρ (ρ h1 14) 2), .int o41_x3]) := (hF462 _ (by rw [tp_iu y21]; decide)).trans hk206k
      have hf_469 : f461 (ρ h1 15) = .inr (4, [.int o44_x0, .ref (ρ (ρ h1 15) 1), .int o44_x2]) := (hF462 _ (by rw [tp_iu y22]; decide)).trans hk207k
      have hf_470 : f461 (ρ h1 16) = .inr (4, [.int o47_x0, .ref (ρ (ρ h1 16) 1), .int o47_x2]) := (hF462 _ (by rw [tp_iu y23]; decide)).trans hk208k
      have hf_471 : f461 (ρ h1 17) = .inr (4, [.int o50_x0, .ref (ρ (ρ h1 17) 1), .int o50_x2]) := (hF462 _ (by rw [tp_iu y24]; decide)).trans hk209k
      have hf_472 : f461 (ρ h1 18) = .inr (4, [.int o53_x0, .ref (ρ (ρ h1 18) 1), .int o53_x2]) := (hF462 _ (by rw [tp_iu y25]; decide)).trans hk210k
      exact ih212 _ _ _ _ (by rw [hn213]; omega) ⟨f461, z463, rfl, hT, hR, hX, hf_464, hf_465, hf_466, hf_467, hf_468, hf_469, hf_470, hf_471, hf_472, (by omega), hP, hD, hS, lv_sub hl [0, 1, 2] rfl⟩
  · have ic200 : w122.toInt < 12 := zi_gef rfl rfl c200
    refine lv_aload_n hx hb dX10_copyFrom_94 rfl (lv_at hl 1 rfl) ?_
    refine tpk_pos (tp_in hG ht_h0 (by decide)) hk188k (fun q473 eq473 => ?_)
    refine va_get (D := (dC, dI)) (ci := 10) (v := .ref (ρ h0 11)) (C := RX10) (T := TX10) (N := 19) hx hb hts hfX10 hown hK hP q473 eq473 rfl 11 (by decide) (hts (.fieldLink RX10 39 "ColdShips$World" "contracts" "[LColdShips$Contract;") wa_47) (fun _ h9 => h9) rfl dX10_copyFrom_95 ?_
    refine lv_iload_n hx hb dX10_copyFrom_98 rfl (lv_at hl 0 rfl) ?_
    refine lv_aload_n hx hb dX10_copyFrom_99 rfl (lv_at hl 2 rfl) ?_
    refine tpk_pos (tp_in hG ht_h1 (by decide)) hk189k (fun q474 eq474 => ?_)
    refine va_get (D := (dC, dI)) (ci := 10) (v := .ref (ρ h1 11)) (C := RX10) (T := TX10) (N := 19) hx hb hts hfX10 hown hK hP q474 eq474 rfl 11 (by decide) (hts (.fieldLink RX10 39 "ColdShips$World" "contracts" "[LColdShips$Contract;") wa_47) (fun _ h9 => h9) rfl dX10_copyFrom_100 ?_
    refine lv_iload_n hx hb dX10_copyFrom_103 rfl (lv_at hl 0 rfl) ?_
    refine tpk_26 hT y18 (fun g476 hf_o475 hf_o475e => ?_)
    refine tpk_pos (tp_in hG y18 (by decide)) hf_o475 (fun q477 eq477 => ?_)
    refine va_aldq hx hb hK hP q477 6 eq477 rfl (vp_in_iff.mpr ⟨by omega, by omega⟩) dX10_copyFrom_104 ?_
    have hq478 := hf_o475e w122.toNatClampNeg (zi_cl (vp_in_iff.mpr ⟨by omega, by omega⟩))
    refine tpk_26 hT y5 (fun g480 hf_o479 hf_o479e => ?_)
    refine tpk_pos (tp_in hG y5 (by decide)) hf_o479 (fun q481 eq481 => ?_)
    rcases hq478 with hq485 | ⟨b486, hq485, hq485t⟩
    · rw [hq485]
      refine va_astqN hx hb hK hP hD hS q481 6 eq481 rfl (vp_in_iff.mpr ⟨by omega, by omega⟩) dX10_copyFrom_105 (tp_k (.inl (κ 6, 12, .inr (.inr (.inr (.inr (va_up g480 w122.toNatClampNeg none)))))) hD (tp_in hG y5 (by decide)) eq481 (fun f487 H locs hP hD hS g489 k488 => ?_))
      have hT := hT.up y5 g489 k488 ⟨_, rfl, (tp_nuN hf_o479e _)⟩
      have hR := hR.up y5 (by decide) k488
      have hX := hX.up k488 (Or.inl (by rw [tp_iu y5]; decide))
      obtain ⟨z490, ez490⟩ : ∃ y : Int32, y = w122 + 1 := ⟨_, rfl⟩
      refine lv_iinc (v := z490) (lv' := [(2, .int z490), (0, .ref h0), (1, .ref h1)]) hx hb dX10_copyFrom_106 hl (k := 0) rfl (by rw [ez490]; rfl) (by decide) rfl (fun ls hl => ?_)
      have iz490 : z490.toInt = w122.toInt + 1 := zi_add ez490 rfl rfl (by omega) (by omega)
      refine lv_goto (tgt := 88) hx hb dX10_copyFrom_109 (by decide) ?_
      have hf_491 : f487 h0 = .inr (10, [.int o26_x0, .int o26_x1, .int o26_x2, .int o26_x3, .int o26_x4, .int o26_x5, .int o26_x6, .ref (ρ h0 7), .ref (ρ h0 8), .ref (ρ h0 9), .ref (ρ h0 10), .ref (ρ h0 11), .ref (ρ h0 12), .ref (ρ h0 13), .ref (ρ h0 14), .ref (ρ h0 15), .ref (ρ h0 16), .ref (ρ h0 17), .ref (ρ h0 18)]) := (k488 _ (tp_ne ht_h0 y5 (by decide))).trans hk188k
      have hf_492 : f487 h1 = .inr (10, [.int o26_x0, .int o26_x1, .int o26_x2, .int o26_x3, .int o26_x4, .int o26_x5, .int o26_x6, .ref (ρ h1 7), .ref (ρ h1 8), .ref (ρ h1 9), .ref (ρ h1 10), .ref (ρ h1 11), .ref (ρ h1 12), .ref (ρ h1 13), .ref (ρ h1 14), .ref (ρ h1 15), .ref (ρ h1 16), .ref (ρ h1 17), .ref (ρ h1 18)]) := (k488 _ (tp_ne ht_h1 y5 (by decide))).trans hk189k
      have hf_493 : f487 (ρ h1 12) = .inr (6, [.ref (ρ (ρ h1 12) 0), .ref (ρ (ρ h1 12) 1), .ref (ρ (ρ h1 12) 2), .int o31_x3]) := (k488 _ (tp_ne y19 y5 (by decide))).trans hk190k
      have hf_494 : f487 (ρ h1 13) = .inr (6, [.ref (ρ (ρ h1 13) 0), .ref (ρ (ρ h1 13) 1), .ref (ρ (ρ h1 13) 2), .int o36_x3]) := (k488 _ (tp_ne y20 y5 (by decide))).trans hk191k
      have hf_495 : f487 (ρ h1 14) = .inr (6, [.ref (ρ (ρ h1 14) 0), .ref (ρ (ρ h1 14) 1), .ref (ρ (ρ h1 14) 2), .int o41_x3]) := (k488 _ (tp_ne y21 y5 (by decide))).trans hk192k
      have hf_496 : f487 (ρ h1 15) = .inr (4, [.int o44_x0, .ref (ρ (ρ h1 15) 1), .int o44_x2]) := (k488 _ (tp_ne y22 y5 (by decide))).trans hk193k
      have hf_497 : f487 (ρ h1 16) = .inr (4, [.int o47_x0, .ref (ρ (ρ h1 16) 1), .int o47_x2]) := (k488 _ (tp_ne y23 y5 (by decide))).trans hk194k
      have hf_498 : f487 (ρ h1 17) = .inr (4, [.int o50_x0, .ref (ρ (ρ h1 17) 1), .int o50_x2]) := (k488 _ (tp_ne y24 y5 (by decide))).trans hk195k
      have hf_499 : f487 (ρ h1 18) = .inr (4, [.int o53_x0, .ref (ρ (ρ h1 18) 1), .int o53_x2]) := (k488 _ (tp_ne y25 y5 (by decide))).trans hk196k
      exact ih198 _ _ _ _ (by rw [hn199]; omega) ⟨f487, z490, rfl, hT, hR, hX, hf_491, hf_492, hf_493, hf_494, hf_495, hf_496, hf_497, hf_498, hf_499, (by omega), hP, hD, hS, lv_sub hl [0, 1, 2] rfl⟩
    · rw [hq485]
      refine tgk_1 hG hq485t (fun y503 y503n y504 y504n => ?_)
      refine tpk_1 hT hq485t (fun o505_x2 o505_x3 o505_x4 hf_o505 => ?_)
      refine tpk_pos (tp_in hG hq485t (by decide)) hf_o505 (fun q506 eq506 => ?_)
      refine va_astq hx hb hK hP hD hS q481 6 q506 0 eq481 rfl eq506 rfl (vp_in_iff.mpr ⟨by omega, by omega⟩) dX10_copyFrom_105 (tp_k (.inl (κ 6, 12, .inr (.inr (.inr (.inr (va_up g480 w122.toNatClampNeg (some b486))))))) hD (tp_in hG y5 (by decide)) eq481 (fun f500 H locs hP hD hS g502 k501 => ?_))
      have hT := hT.up y5 g502 k501 ⟨_, rfl, (tp_nu hf_o479e _ hq485t)⟩
      have hR := hR.up y5 (by decide) k501
      have hX := hX.up k501 (Or.inl (by rw [tp_iu y5]; decide))
      obtain ⟨z507, ez507⟩ : ∃ y : Int32, y = w122 + 1 := ⟨_, rfl⟩
      refine lv_iinc (v := z507) (lv' := [(2, .int z507), (0, .ref h0), (1, .ref h1)]) hx hb dX10_copyFrom_106 hl (k := 0) rfl (by rw [ez507]; rfl) (by decide) rfl (fun ls hl => ?_)
      have iz507 : z507.toInt = w122.toInt + 1 := zi_add ez507 rfl rfl (by omega) (by omega)
      refine lv_goto (tgt := 88) hx hb dX10_copyFrom_109 (by decide) ?_
      have hf_508 : f500 h0 = .inr (10, [.int o26_x0, .int o26_x1, .int o26_x2, .int o26_x3, .int o26_x4, .int o26_x5, .int o26_x6, .ref (ρ h0 7), .ref (ρ h0 8), .ref (ρ h0 9), .ref (ρ h0 10), .ref (ρ h0 11), .ref (ρ h0 12), .ref (ρ h0 13), .ref (ρ h0 14), .ref (ρ h0 15), .ref (ρ h0 16), .ref (ρ h0 17), .ref (ρ h0 18)]) := (k501 _ (tp_ne ht_h0 y5 (by decide))).trans hk188k
      have hf_509 : f500 h1 = .inr (10, [.int o26_x0, .int o26_x1, .int o26_x2, .int o26_x3, .int o26_x4, .int o26_x5, .int o26_x6, .ref (ρ h1 7), .ref (ρ h1 8), .ref (ρ h1 9), .ref (ρ h1 10), .ref (ρ h1 11), .ref (ρ h1 12), .ref (ρ h1 13), .ref (ρ h1 14), .ref (ρ h1 15), .ref (ρ h1 16), .ref (ρ h1 17), .ref (ρ h1 18)]) := (k501 _ (tp_ne ht_h1 y5 (by decide))).trans hk189k
      have hf_510 : f500 (ρ h1 12) = .inr (6, [.ref (ρ (ρ h1 12) 0), .ref (ρ (ρ h1 12) 1), .ref (ρ (ρ h1 12) 2), .int o31_x3]) := (k501 _ (tp_ne y19 y5 (by decide))).trans hk190k
      have hf_511 : f500 (ρ h1 13) = .inr (6, [.ref (ρ (ρ h1 13) 0), .ref (ρ (ρ h1 13) 1), .ref (ρ (ρ h1 13) 2), .int o36_x3]) := (k501 _ (tp_ne y20 y5 (by decide))).trans hk191k
      have hf_512 : f500 (ρ h1 14) = .inr (6, [.ref (ρ (ρ h1 14) 0), .ref (ρ (ρ h1 14) 1), .ref (ρ (ρ h1 14) 2), .int o41_x3]) := (k501 _ (tp_ne y21 y5 (by decide))).trans hk192k
      have hf_513 : f500 (ρ h1 15) = .inr (4, [.int o44_x0, .ref (ρ (ρ h1 15) 1), .int o44_x2]) := (k501 _ (tp_ne y22 y5 (by decide))).trans hk193k
      have hf_514 : f500 (ρ h1 16) = .inr (4, [.int o47_x0, .ref (ρ (ρ h1 16) 1), .int o47_x2]) := (k501 _ (tp_ne y23 y5 (by decide))).trans hk194k
      have hf_515 : f500 (ρ h1 17) = .inr (4, [.int o50_x0, .ref (ρ (ρ h1 17) 1), .int o50_x2]) := (k501 _ (tp_ne y24 y5 (by decide))).trans hk195k
      have hf_516 : f500 (ρ h1 18) = .inr (4, [.int o53_x0, .ref (ρ (ρ h1 18) 1), .int o53_x2]) := (k501 _ (tp_ne y25 y5 (by decide))).trans hk196k
      exact ih198 _ _ _ _ (by rw [hn199]; omega) ⟨f500, z507, rfl, hT, hR, hX, hf_508, hf_509, hf_510, hf_511, hf_512, hf_513, hf_514, hf_515, hf_516, (by omega), hP, hD, hS, lv_sub hl [0, 1, 2] rfl⟩
end
section
theorem ggX9_passHour_X11_isHour : GoodIn WALL wqX11_isHour := wg_c wa_325
theorem gX9_passHour_X9_passShip : GoodIn WALL (wsV RX9 42 RX9 yX9_passShip wqX9_passShip) := wg_V wa_407 wa_408 wa_409 wa_19 wa_410
theorem dX9_passHour_0 : decode cX9_passHour 0 = .ok (.aload_n 0, 1) := od_42  (by decide +kernel)
theorem dX9_passHour_1 : decode cX9_passHour 1 = .ok (.getfield 9, 3) := od_180 (a := 0) (b := 9) (by decide +kernel) (by decide)
theorem dX9_passHour_4 : decode cX9_passHour 4 = .ok (.getfield 15, 3) := od_180 (a := 0) (b := 15) (by decide +kernel) (by decide)
theorem dX9_passHour_7 : decode cX9_passHour 7 = .ok (.invokestatic 21, 3) := od_184 (a := 0) (b := 21) (by decide +kernel) (by decide)
theorem dX9_passHour_10 : decode cX9_passHour 10 = .ok (.ifCond .ne 4, 3) := od_154 (a := 0) (b := 4) (by decide +kernel) (by decide +kernel)
theorem dX9_passHour_13 : decode cX9_passHour 13 = .ok (.return_, 1) := od_177  (by decide +kernel)
theorem dX9_passHour_14 : decode cX9_passHour 14 = .ok (.aload_n 0, 1) := od_42  (by decide +kernel)
theorem dX9_passHour_15 : decode cX9_passHour 15 = .ok (.aload_n 0, 1) := od_42  (by decide +kernel)
theorem dX9_passHour_16 : decode cX9_passHour 16 = .ok (.getfield 9, 3) := od_180 (a := 0) (b := 9) (by decide +kernel) (by decide)
theorem dX9_passHour_19 : decode cX9_passHour 19 = .ok (.getfield 15, 3) := od_180 (a := 0) (b := 15) (by decide +kernel) (by decide)
theorem dX9_passHour_22 : decode cX9_passHour 22 = .ok (.putfield 25, 3) := od_181 (a := 0) (b := 25) (by decide +kernel) (by decide)
theorem dX9_passHour_25 : decode cX9_passHour 25 = .ok (.aload_n 0, 1) := od_42  (by decide +kernel)
theorem dX9_passHour_26 : decode cX9_passHour 26 = .ok (.aload_n 0, 1) := od_42  (by decide +kernel)
theorem dX9_passHour_27 : decode cX9_passHour 27 = .ok (.getfield 9, 3) := od_180 (a := 0) (b := 9) (by decide +kernel) (by decide)
theorem dX9_passHour_30 : decode cX9_passHour 30 = .ok (.getfield 28, 3) := od_180 (a := 0) (b := 28) (by decide +kernel) (by decide)
theorem dX9_passHour_33 : decode cX9_passHour 33 = .ok (.aload_n 0, 1) := od_42  (by decide +kernel)
theorem dX9_passHour_34 : decode cX9_passHour 34 = .ok (.getfield 25, 3) := od_180 (a := 0) (b := 25) (by decide +kernel) (by decide)
theorem dX9_passHour_37 : decode cX9_passHour 37 = .ok (.bipush 24, 2) := od_16 (a := 24) (by decide +kernel) (by decide +kernel)
theorem dX9_passHour_39 : decode cX9_passHour 39 = .ok (.idiv, 1) := od_108  (by decide +kernel)
theorem dX9_passHour_40 : decode cX9_passHour 40 = .ok (.iaload, 1) := od_46  (by decide +kernel)
theorem dX9_passHour_41 : decode cX9_passHour 41 = .ok (.putfield 32, 3) := od_181 (a := 0) (b := 32) (by decide +kernel) (by decide)
theorem dX9_passHour_44 : decode cX9_passHour 44 = .ok (.aload_n 0, 1) := od_42  (by decide +kernel)
theorem dX9_passHour_45 : decode cX9_passHour 45 = .ok (.iconst 0, 1) := od_3  (by decide +kernel)
theorem dX9_passHour_46 : decode cX9_passHour 46 = .ok (.putfield 35, 3) := od_181 (a := 0) (b := 35) (by decide +kernel) (by decide)
theorem dX9_passHour_49 : decode cX9_passHour 49 = .ok (.iconst 0, 1) := od_3  (by decide +kernel)
theorem dX9_passHour_50 : decode cX9_passHour 50 = .ok (.istore_n 1, 1) := od_60  (by decide +kernel)
theorem dX9_passHour_51 : decode cX9_passHour 51 = .ok (.iload_n 1, 1) := od_27  (by decide +kernel)
theorem dX9_passHour_52 : decode cX9_passHour 52 = .ok (.aload_n 0, 1) := od_42  (by decide +kernel)
theorem dX9_passHour_53 : decode cX9_passHour 53 = .ok (.getfield 9, 3) := od_180 (a := 0) (b := 9) (by decide +kernel) (by decide)
theorem dX9_passHour_56 : decode cX9_passHour 56 = .ok (.getfield 39, 3) := od_180 (a := 0) (b := 39) (by decide +kernel) (by decide)
theorem dX9_passHour_59 : decode cX9_passHour 59 = .ok (.if_icmp .ge 14, 3) := od_162 (a := 0) (b := 14) (by decide +kernel) (by decide +kernel)
theorem dX9_passHour_62 : decode cX9_passHour 62 = .ok (.aload_n 0, 1) := od_42  (by decide +kernel)
theorem dX9_passHour_63 : decode cX9_passHour 63 = .ok (.iload_n 1, 1) := od_27  (by decide +kernel)
theorem dX9_passHour_64 : decode cX9_passHour 64 = .ok (.invokevirtual 42, 3) := od_182 (a := 0) (b := 42) (by decide +kernel) (by decide)
theorem dX9_passHour_67 : decode cX9_passHour 67 = .ok (.iinc 1 1, 3) := od_132 (a := 1) (b := 1) (by decide +kernel) (by decide +kernel)
theorem dX9_passHour_70 : decode cX9_passHour 70 = .ok (.goto (-19), 3) := od_167 (a := 255) (b := 237) (by decide +kernel) (by decide +kernel)
theorem dX9_passHour_73 : decode cX9_passHour 73 = .ok (.aload_n 0, 1) := od_42  (by decide +kernel)
theorem dX9_passHour_74 : decode cX9_passHour 74 = .ok (.getfield 9, 3) := od_180 (a := 0) (b := 9) (by decide +kernel) (by decide)
theorem dX9_passHour_77 : decode cX9_passHour 77 = .ok (.dup, 1) := od_89  (by decide +kernel)
theorem dX9_passHour_78 : decode cX9_passHour 78 = .ok (.getfield 15, 3) := od_180 (a := 0) (b := 15) (by decide +kernel) (by decide)
theorem dX9_passHour_81 : decode cX9_passHour 81 = .ok (.iconst 1, 1) := od_4  (by decide +kernel)
theorem dX9_passHour_82 : decode cX9_passHour 82 = .ok (.iadd, 1) := od_96  (by decide +kernel)
theorem dX9_passHour_83 : decode cX9_passHour 83 = .ok (.putfield 15, 3) := od_181 (a := 0) (b := 15) (by decide +kernel) (by decide)
theorem dX9_passHour_86 : decode cX9_passHour 86 = .ok (.return_, 1) := od_177  (by decide +kernel)
theorem gX9_passShip_X7_boil : GoodIn WALL (wsV RX9 62 RX7 yX7_boil wqX7_boil) := wg_V wa_411 wa_412 wa_413 wa_95 wa_414
theorem gX9_passShip_X7_warmOrCool : GoodIn WALL (wsV RX9 67 RX7 yX7_warmOrCool wqX7_warmOrCool) := wg_V wa_429 wa_430 wa_431 wa_95 wa_432
theorem gX9_passShip_X5_burnFuel : GoodIn WALL (wsV RX9 73 RX5 yX5_burnFuel wqX5_burnFuel) := wg_V wa_443 wa_444 wa_445 wa_64 wa_446
theorem gX9_passShip_X9_sail : GoodIn WALL (wsV RX9 82 RX9 yX9_sail wqX9_sail) := wg_V wa_451 wa_452 wa_453 wa_19 wa_454
theorem gX9_passShip_X9_tonsMayGo : GoodIn WALL (wsV RX9 86 RX9 yX9_tonsMayGo wqX9_tonsMayGo) := wg_V wa_472 wa_473 wa_474 wa_19 wa_475
theorem gX9_passShip_X9_load : GoodIn WALL (wsV RX9 90 RX9 yX9_load wqX9_load) := wg_V wa_482 wa_483 wa_484 wa_19 wa_485
theorem gX9_passShip_X9_land : GoodIn WALL (wsV RX9 93 RX9 yX9_land wqX9_land) := wg_V wa_496 wa_497 wa_498 wa_19 wa_499
theorem gX9_passShip_X5_endOrder : GoodIn WALL (wsV RX9 100 RX5 yX5_endOrder wqX5_endOrder) := wg_V wa_460 wa_461 wa_462 wa_64 wa_463
theorem gX9_passShip_X7_vent : GoodIn WALL (wsV RX9 110 RX7 yX7_vent wqX7_vent) := wg_V wa_533 wa_534 wa_535 wa_95 wa_536
theorem dX9_passShip_0 : decode cX9_passShip 0 = .ok (.aload_n 0, 1) := od_42  (by decide +kernel)
theorem dX9_passShip_1 : decode cX9_passShip 1 = .ok (.getfield 9, 3) := od_180 (a := 0) (b := 9) (by decide +kernel) (by decide)
theorem dX9_passShip_4 : decode cX9_passShip 4 = .ok (.getfield 46, 3) := od_180 (a := 0) (b := 46) (by decide +kernel) (by decide)
theorem dX9_passShip_7 : decode cX9_passShip 7 = .ok (.iload_n 1, 1) := od_27  (by decide +kernel)
theorem dX9_passShip_8 : decode cX9_passShip 8 = .ok (.aaload, 1) := od_50  (by decide +kernel)
theorem dX9_passShip_9 : decode cX9_passShip 9 = .ok (.astore_n 2, 1) := od_77  (by decide +kernel)
theorem dX9_passShip_10 : decode cX9_passShip 10 = .ok (.aload_n 2, 1) := od_44  (by decide +kernel)
theorem dX9_passShip_11 : decode cX9_passShip 11 = .ok (.getfield 50, 3) := od_180 (a := 0) (b := 50) (by decide +kernel) (by decide)
theorem dX9_passShip_14 : decode cX9_passShip 14 = .ok (.ifCond .le 7, 3) := od_158 (a := 0) (b := 7) (by decide +kernel) (by decide +kernel)
theorem dX9_passShip_17 : decode cX9_passShip 17 = .ok (.iconst 1, 1) := od_4  (by decide +kernel)
theorem dX9_passShip_18 : decode cX9_passShip 18 = .ok (.goto 4, 3) := od_167 (a := 0) (b := 4) (by decide +kernel) (by decide +kernel)
theorem dX9_passShip_21 : decode cX9_passShip 21 = .ok (.iconst 0, 1) := od_3  (by decide +kernel)
theorem dX9_passShip_22 : decode cX9_passShip 22 = .ok (.istore_n 3, 1) := od_62  (by decide +kernel)
theorem dX9_passShip_23 : decode cX9_passShip 23 = .ok (.aload_n 2, 1) := od_44  (by decide +kernel)
theorem dX9_passShip_24 : decode cX9_passShip 24 = .ok (.getfield 55, 3) := od_180 (a := 0) (b := 55) (by decide +kernel) (by decide)
theorem dX9_passShip_27 : decode cX9_passShip 27 = .ok (.aload_n 0, 1) := od_42  (by decide +kernel)
theorem dX9_passShip_28 : decode cX9_passShip 28 = .ok (.getfield 9, 3) := od_180 (a := 0) (b := 9) (by decide +kernel) (by decide)
theorem dX9_passShip_31 : decode cX9_passShip 31 = .ok (.getfield 59, 3) := od_180 (a := 0) (b := 59) (by decide +kernel) (by decide)
theorem dX9_passShip_34 : decode cX9_passShip 34 = .ok (.aload_n 0, 1) := od_42  (by decide +kernel)
theorem dX9_passShip_35 : decode cX9_passShip 35 = .ok (.getfield 32, 3) := od_180 (a := 0) (b := 32) (by decide +kernel) (by decide)
theorem dX9_passShip_38 : decode cX9_passShip 38 = .ok (.iadd, 1) := od_96  (by decide +kernel)
theorem dX9_passShip_39 : decode cX9_passShip 39 = .ok (.invokevirtual 62, 3) := od_182 (a := 0) (b := 62) (by decide +kernel) (by decide)
theorem dX9_passShip_42 : decode cX9_passShip 42 = .ok (.aload_n 2, 1) := od_44  (by decide +kernel)
theorem dX9_passShip_43 : decode cX9_passShip 43 = .ok (.getfield 55, 3) := od_180 (a := 0) (b := 55) (by decide +kernel) (by decide)
theorem dX9_passShip_46 : decode cX9_passShip 46 = .ok (.invokevirtual 67, 3) := od_182 (a := 0) (b := 67) (by decide +kernel) (by decide)
theorem dX9_passShip_49 : decode cX9_passShip 49 = .ok (.aload_n 2, 1) := od_44  (by decide +kernel)
theorem dX9_passShip_50 : decode cX9_passShip 50 = .ok (.iload_n 3, 1) := od_29  (by decide +kernel)
theorem dX9_passShip_51 : decode cX9_passShip 51 = .ok (.ifCond .eq 10, 3) := od_153 (a := 0) (b := 10) (by decide +kernel) (by decide +kernel)
theorem dX9_passShip_54 : decode cX9_passShip 54 = .ok (.aload_n 2, 1) := od_44  (by decide +kernel)
theorem dX9_passShip_55 : decode cX9_passShip 55 = .ok (.getfield 70, 3) := od_180 (a := 0) (b := 70) (by decide +kernel) (by decide)
theorem dX9_passShip_58 : decode cX9_passShip 58 = .ok (.goto 9, 3) := od_167 (a := 0) (b := 9) (by decide +kernel) (by decide +kernel)
theorem dX9_passShip_61 : decode cX9_passShip 61 = .ok (.aload_n 2, 1) := od_44  (by decide +kernel)
theorem dX9_passShip_62 : decode cX9_passShip 62 = .ok (.getfield 70, 3) := od_180 (a := 0) (b := 70) (by decide +kernel) (by decide)
theorem dX9_passShip_65 : decode cX9_passShip 65 = .ok (.iconst 4, 1) := od_7  (by decide +kernel)
theorem dX9_passShip_66 : decode cX9_passShip 66 = .ok (.idiv, 1) := od_108  (by decide +kernel)
theorem dX9_passShip_67 : decode cX9_passShip 67 = .ok (.invokevirtual 73, 3) := od_182 (a := 0) (b := 73) (by decide +kernel) (by decide)
theorem dX9_passShip_70 : decode cX9_passShip 70 = .ok (.aload_n 2, 1) := od_44  (by decide +kernel)
theorem dX9_passShip_71 : decode cX9_passShip 71 = .ok (.getfield 76, 3) := od_180 (a := 0) (b := 76) (by decide +kernel) (by decide)
theorem dX9_passShip_74 : decode cX9_passShip 74 = .ok (.ifCond .le 12, 3) := od_158 (a := 0) (b := 12) (by decide +kernel) (by decide +kernel)
theorem dX9_passShip_77 : decode cX9_passShip 77 = .ok (.aload_n 2, 1) := od_44  (by decide +kernel)
theorem dX9_passShip_78 : decode cX9_passShip 78 = .ok (.getfield 79, 3) := od_180 (a := 0) (b := 79) (by decide +kernel) (by decide)
theorem dX9_passShip_81 : decode cX9_passShip 81 = .ok (.iconst 0, 1) := od_3  (by decide +kernel)
theorem dX9_passShip_82 : decode cX9_passShip 82 = .ok (.iaload, 1) := od_46  (by decide +kernel)
theorem dX9_passShip_83 : decode cX9_passShip 83 = .ok (.goto 4, 3) := od_167 (a := 0) (b := 4) (by decide +kernel) (by decide +kernel)
theorem dX9_passShip_86 : decode cX9_passShip 86 = .ok (.iconst (-1), 1) := od_2  (by decide +kernel)
theorem dX9_passShip_87 : decode cX9_passShip 87 = .ok (.istore 4, 2) := od_54 (n := 4) (by decide +kernel)
theorem dX9_passShip_89 : decode cX9_passShip 89 = .ok (.iload 4, 2) := od_21 (n := 4) (by decide +kernel)
theorem dX9_passShip_91 : decode cX9_passShip 91 = .ok (.ifCond .ne 11, 3) := od_154 (a := 0) (b := 11) (by decide +kernel) (by decide +kernel)
theorem dX9_passShip_94 : decode cX9_passShip 94 = .ok (.aload_n 0, 1) := od_42  (by decide +kernel)
theorem dX9_passShip_95 : decode cX9_passShip 95 = .ok (.aload_n 2, 1) := od_44  (by decide +kernel)
theorem dX9_passShip_96 : decode cX9_passShip 96 = .ok (.invokevirtual 82, 3) := od_182 (a := 0) (b := 82) (by decide +kernel) (by decide)
theorem dX9_passShip_99 : decode cX9_passShip 99 = .ok (.goto 73, 3) := od_167 (a := 0) (b := 73) (by decide +kernel) (by decide +kernel)
theorem dX9_passShip_102 : decode cX9_passShip 102 = .ok (.iload 4, 2) := od_21 (n := 4) (by decide +kernel)
theorem dX9_passShip_104 : decode cX9_passShip 104 = .ok (.iconst 1, 1) := od_4  (by decide +kernel)
theorem dX9_passShip_105 : decode cX9_passShip 105 = .ok (.if_icmp .ne 20, 3) := od_160 (a := 0) (b := 20) (by decide +kernel) (by decide +kernel)
theorem dX9_passShip_108 : decode cX9_passShip 108 = .ok (.aload_n 0, 1) := od_42  (by decide +kernel)
theorem dX9_passShip_109 : decode cX9_passShip 109 = .ok (.iload_n 1, 1) := od_27  (by decide +kernel)
theorem dX9_passShip_110 : decode cX9_passShip 110 = .ok (.aload_n 2, 1) := od_44  (by decide +kernel)
theorem dX9_passShip_111 : decode cX9_passShip 111 = .ok (.invokevirtual 86, 3) := od_182 (a := 0) (b := 86) (by decide +kernel) (by decide)
theorem dX9_passShip_114 : decode cX9_passShip 114 = .ok (.ifCond .eq 11, 3) := od_153 (a := 0) (b := 11) (by decide +kernel) (by decide +kernel)
theorem dX9_passShip_117 : decode cX9_passShip 117 = .ok (.aload_n 0, 1) := od_42  (by decide +kernel)
theorem dX9_passShip_118 : decode cX9_passShip 118 = .ok (.aload_n 2, 1) := od_44  (by decide +kernel)
theorem dX9_passShip_119 : decode cX9_passShip 119 = .ok (.invokevirtual 90, 3) := od_182 (a := 0) (b := 90) (by decide +kernel) (by decide)
theorem dX9_passShip_122 : decode cX9_passShip 122 = .ok (.goto 50, 3) := od_167 (a := 0) (b := 50) (by decide +kernel) (by decide +kernel)
theorem dX9_passShip_125 : decode cX9_passShip 125 = .ok (.iload 4, 2) := od_21 (n := 4) (by decide +kernel)
theorem dX9_passShip_127 : decode cX9_passShip 127 = .ok (.iconst 2, 1) := od_5  (by decide +kernel)
theorem dX9_passShip_128 : decode cX9_passShip 128 = .ok (.if_icmp .ne 21, 3) := od_160 (a := 0) (b := 21) (by decide +kernel) (by decide +kernel)
theorem dX9_passShip_131 : decode cX9_passShip 131 = .ok (.aload_n 0, 1) := od_42  (by decide +kernel)
theorem dX9_passShip_132 : decode cX9_passShip 132 = .ok (.iload_n 1, 1) := od_27  (by decide +kernel)
theorem dX9_passShip_133 : decode cX9_passShip 133 = .ok (.aload_n 2, 1) := od_44  (by decide +kernel)
theorem dX9_passShip_134 : decode cX9_passShip 134 = .ok (.invokevirtual 86, 3) := od_182 (a := 0) (b := 86) (by decide +kernel) (by decide)
theorem dX9_passShip_137 : decode cX9_passShip 137 = .ok (.ifCond .eq 12, 3) := od_153 (a := 0) (b := 12) (by decide +kernel) (by decide +kernel)
theorem dX9_passShip_140 : decode cX9_passShip 140 = .ok (.aload_n 0, 1) := od_42  (by decide +kernel)
theorem dX9_passShip_141 : decode cX9_passShip 141 = .ok (.iload_n 1, 1) := od_27  (by decide +kernel)
theorem dX9_passShip_142 : decode cX9_passShip 142 = .ok (.aload_n 2, 1) := od_44  (by decide +kernel)
theorem dX9_passShip_143 : decode cX9_passShip 143 = .ok (.invokevirtual 93, 3) := od_182 (a := 0) (b := 93) (by decide +kernel) (by decide)
theorem dX9_passShip_146 : decode cX9_passShip 146 = .ok (.goto 26, 3) := od_167 (a := 0) (b := 26) (by decide +kernel) (by decide +kernel)
theorem dX9_passShip_149 : decode cX9_passShip 149 = .ok (.iload 4, 2) := od_21 (n := 4) (by decide +kernel)
theorem dX9_passShip_151 : decode cX9_passShip 151 = .ok (.iconst 3, 1) := od_6  (by decide +kernel)
theorem dX9_passShip_152 : decode cX9_passShip 152 = .ok (.if_icmp .ne 20, 3) := od_160 (a := 0) (b := 20) (by decide +kernel) (by decide +kernel)
theorem dX9_passShip_155 : decode cX9_passShip 155 = .ok (.aload_n 0, 1) := od_42  (by decide +kernel)
theorem dX9_passShip_156 : decode cX9_passShip 156 = .ok (.getfield 25, 3) := od_180 (a := 0) (b := 25) (by decide +kernel) (by decide)
theorem dX9_passShip_159 : decode cX9_passShip 159 = .ok (.aload_n 2, 1) := od_44  (by decide +kernel)
theorem dX9_passShip_160 : decode cX9_passShip 160 = .ok (.getfield 97, 3) := od_180 (a := 0) (b := 97) (by decide +kernel) (by decide)
theorem dX9_passShip_163 : decode cX9_passShip 163 = .ok (.iconst 0, 1) := od_3  (by decide +kernel)
theorem dX9_passShip_164 : decode cX9_passShip 164 = .ok (.iaload, 1) := od_46  (by decide +kernel)
theorem dX9_passShip_165 : decode cX9_passShip 165 = .ok (.if_icmp .lt 7, 3) := od_161 (a := 0) (b := 7) (by decide +kernel) (by decide +kernel)
theorem dX9_passShip_168 : decode cX9_passShip 168 = .ok (.aload_n 2, 1) := od_44  (by decide +kernel)
theorem dX9_passShip_169 : decode cX9_passShip 169 = .ok (.invokevirtual 100, 3) := od_182 (a := 0) (b := 100) (by decide +kernel) (by decide)
theorem dX9_passShip_172 : decode cX9_passShip 172 = .ok (.aload_n 2, 1) := od_44  (by decide +kernel)
theorem dX9_passShip_173 : decode cX9_passShip 173 = .ok (.getfield 103, 3) := od_180 (a := 0) (b := 103) (by decide +kernel) (by decide)
theorem dX9_passShip_176 : decode cX9_passShip 176 = .ok (.iconst 2, 1) := od_5  (by decide +kernel)
theorem dX9_passShip_177 : decode cX9_passShip 177 = .ok (.dup2, 1) := od_92  (by decide +kernel)
theorem dX9_passShip_178 : decode cX9_passShip 178 = .ok (.laload, 1) := od_47  (by decide +kernel)
theorem dX9_passShip_179 : decode cX9_passShip 179 = .ok (.aload_n 2, 1) := od_44  (by decide +kernel)
theorem dX9_passShip_180 : decode cX9_passShip 180 = .ok (.getfield 55, 3) := od_180 (a := 0) (b := 55) (by decide +kernel) (by decide)
theorem dX9_passShip_183 : decode cX9_passShip 183 = .ok (.aload_n 0, 1) := od_42  (by decide +kernel)
theorem dX9_passShip_184 : decode cX9_passShip 184 = .ok (.getfield 9, 3) := od_180 (a := 0) (b := 9) (by decide +kernel) (by decide)
theorem dX9_passShip_187 : decode cX9_passShip 187 = .ok (.getfield 107, 3) := od_180 (a := 0) (b := 107) (by decide +kernel) (by decide)
theorem dX9_passShip_190 : decode cX9_passShip 190 = .ok (.invokevirtual 110, 3) := od_182 (a := 0) (b := 110) (by decide +kernel) (by decide)
theorem dX9_passShip_193 : decode cX9_passShip 193 = .ok (.i2l, 1) := od_133  (by decide +kernel)
theorem dX9_passShip_194 : decode cX9_passShip 194 = .ok (.ladd, 1) := od_97  (by decide +kernel)
theorem dX9_passShip_195 : decode cX9_passShip 195 = .ok (.lastore, 1) := od_80  (by decide +kernel)
theorem dX9_passShip_196 : decode cX9_passShip 196 = .ok (.return_, 1) := od_177  (by decide +kernel)
theorem gX9_sail_X10_hoursBetween : GoodIn WALL (wsV RX9 117 RX10 yX10_hoursBetween wqX10_hoursBetween) := wg_V wa_455 wa_456 wa_457 wa_14 wa_458
theorem gX9_sail_X5_endOrder : GoodIn WALL (wsV RX9 100 RX5 yX5_endOrder wqX5_endOrder) := wg_V wa_460 wa_461 wa_462 wa_64 wa_463
theorem gX9_sail_X9_takesTurn : GoodIn WALL (wsV RX9 136 RX9 yX9_takesTurn wqX9_takesTurn) := wg_V wa_468 wa_469 wa_470 wa_19 wa_471
theorem dX9_sail_0 : decode cX9_sail 0 = .ok (.aload_n 1, 1) := od_43  (by decide +kernel)
theorem dX9_sail_1 : decode cX9_sail 1 = .ok (.getfield 97, 3) := od_180 (a := 0) (b := 97) (by decide +kernel) (by decide)
theorem dX9_sail_4 : decode cX9_sail 4 = .ok (.iconst 0, 1) := od_3  (by decide +kernel)
theorem dX9_sail_5 : decode cX9_sail 5 = .ok (.iaload, 1) := od_46  (by decide +kernel)
theorem dX9_sail_6 : decode cX9_sail 6 = .ok (.istore_n 2, 1) := od_61  (by decide +kernel)
theorem dX9_sail_7 : decode cX9_sail 7 = .ok (.aload_n 1, 1) := od_43  (by decide +kernel)
theorem dX9_sail_8 : decode cX9_sail 8 = .ok (.getfield 50, 3) := od_180 (a := 0) (b := 50) (by decide +kernel) (by decide)
theorem dX9_sail_11 : decode cX9_sail 11 = .ok (.ifCond .ne 60, 3) := od_154 (a := 0) (b := 60) (by decide +kernel) (by decide +kernel)
theorem dX9_sail_14 : decode cX9_sail 14 = .ok (.aload_n 0, 1) := od_42  (by decide +kernel)
theorem dX9_sail_15 : decode cX9_sail 15 = .ok (.getfield 9, 3) := od_180 (a := 0) (b := 9) (by decide +kernel) (by decide)
theorem dX9_sail_18 : decode cX9_sail 18 = .ok (.aload_n 1, 1) := od_43  (by decide +kernel)
theorem dX9_sail_19 : decode cX9_sail 19 = .ok (.getfield 114, 3) := od_180 (a := 0) (b := 114) (by decide +kernel) (by decide)
theorem dX9_sail_22 : decode cX9_sail 22 = .ok (.iload_n 2, 1) := od_28  (by decide +kernel)
theorem dX9_sail_23 : decode cX9_sail 23 = .ok (.invokevirtual 117, 3) := od_182 (a := 0) (b := 117) (by decide +kernel) (by decide)
theorem dX9_sail_26 : decode cX9_sail 26 = .ok (.istore_n 3, 1) := od_62  (by decide +kernel)
theorem dX9_sail_27 : decode cX9_sail 27 = .ok (.iload_n 3, 1) := od_29  (by decide +kernel)
theorem dX9_sail_28 : decode cX9_sail 28 = .ok (.ifCond .ne 7, 3) := od_154 (a := 0) (b := 7) (by decide +kernel) (by decide +kernel)
theorem dX9_sail_31 : decode cX9_sail 31 = .ok (.aload_n 1, 1) := od_43  (by decide +kernel)
theorem dX9_sail_32 : decode cX9_sail 32 = .ok (.invokevirtual 100, 3) := od_182 (a := 0) (b := 100) (by decide +kernel) (by decide)
theorem dX9_sail_35 : decode cX9_sail 35 = .ok (.iload_n 3, 1) := od_29  (by decide +kernel)
theorem dX9_sail_36 : decode cX9_sail 36 = .ok (.ifCond .gt 4, 3) := od_157 (a := 0) (b := 4) (by decide +kernel) (by decide +kernel)
theorem dX9_sail_39 : decode cX9_sail 39 = .ok (.return_, 1) := od_177  (by decide +kernel)
theorem dX9_sail_40 : decode cX9_sail 40 = .ok (.aload_n 1, 1) := od_43  (by decide +kernel)
theorem dX9_sail_41 : decode cX9_sail 41 = .ok (.aload_n 0, 1) := od_42  (by decide +kernel)
theorem dX9_sail_42 : decode cX9_sail 42 = .ok (.getfield 9, 3) := od_180 (a := 0) (b := 9) (by decide +kernel) (by decide)
theorem dX9_sail_45 : decode cX9_sail 45 = .ok (.getfield 121, 3) := od_180 (a := 0) (b := 121) (by decide +kernel) (by decide)
theorem dX9_sail_48 : decode cX9_sail 48 = .ok (.aload_n 1, 1) := od_43  (by decide +kernel)
theorem dX9_sail_49 : decode cX9_sail 49 = .ok (.getfield 114, 3) := od_180 (a := 0) (b := 114) (by decide +kernel) (by decide)
theorem dX9_sail_52 : decode cX9_sail 52 = .ok (.aaload, 1) := od_50  (by decide +kernel)
theorem dX9_sail_53 : decode cX9_sail 53 = .ok (.getfield 125, 3) := od_180 (a := 0) (b := 125) (by decide +kernel) (by decide)
theorem dX9_sail_56 : decode cX9_sail 56 = .ok (.iload_n 2, 1) := od_28  (by decide +kernel)
theorem dX9_sail_57 : decode cX9_sail 57 = .ok (.iaload, 1) := od_46  (by decide +kernel)
theorem dX9_sail_58 : decode cX9_sail 58 = .ok (.putfield 130, 3) := od_181 (a := 0) (b := 130) (by decide +kernel) (by decide)
theorem dX9_sail_61 : decode cX9_sail 61 = .ok (.aload_n 1, 1) := od_43  (by decide +kernel)
theorem dX9_sail_62 : decode cX9_sail 62 = .ok (.iload_n 3, 1) := od_29  (by decide +kernel)
theorem dX9_sail_63 : decode cX9_sail 63 = .ok (.putfield 50, 3) := od_181 (a := 0) (b := 50) (by decide +kernel) (by decide)
theorem dX9_sail_66 : decode cX9_sail 66 = .ok (.aload_n 1, 1) := od_43  (by decide +kernel)
theorem dX9_sail_67 : decode cX9_sail 67 = .ok (.iload_n 2, 1) := od_28  (by decide +kernel)
theorem dX9_sail_68 : decode cX9_sail 68 = .ok (.putfield 114, 3) := od_181 (a := 0) (b := 114) (by decide +kernel) (by decide)
theorem dX9_sail_71 : decode cX9_sail 71 = .ok (.aload_n 1, 1) := od_43  (by decide +kernel)
theorem dX9_sail_72 : decode cX9_sail 72 = .ok (.getfield 133, 3) := od_180 (a := 0) (b := 133) (by decide +kernel) (by decide)
theorem dX9_sail_75 : decode cX9_sail 75 = .ok (.ifCond .ne 22, 3) := od_154 (a := 0) (b := 22) (by decide +kernel) (by decide +kernel)
theorem dX9_sail_78 : decode cX9_sail 78 = .ok (.aload_n 0, 1) := od_42  (by decide +kernel)
theorem dX9_sail_79 : decode cX9_sail 79 = .ok (.getfield 32, 3) := od_180 (a := 0) (b := 32) (by decide +kernel) (by decide)
theorem dX9_sail_82 : decode cX9_sail 82 = .ok (.bipush 6, 2) := od_16 (a := 6) (by decide +kernel) (by decide +kernel)
theorem dX9_sail_84 : decode cX9_sail 84 = .ok (.if_icmp .le 17, 3) := od_164 (a := 0) (b := 17) (by decide +kernel) (by decide +kernel)
theorem dX9_sail_87 : decode cX9_sail 87 = .ok (.aload_n 0, 1) := od_42  (by decide +kernel)
theorem dX9_sail_88 : decode cX9_sail 88 = .ok (.getfield 25, 3) := od_180 (a := 0) (b := 25) (by decide +kernel) (by decide)
theorem dX9_sail_91 : decode cX9_sail 91 = .ok (.iconst 2, 1) := od_5  (by decide +kernel)
theorem dX9_sail_92 : decode cX9_sail 92 = .ok (.irem, 1) := od_112  (by decide +kernel)
theorem dX9_sail_93 : decode cX9_sail 93 = .ok (.iconst 1, 1) := od_4  (by decide +kernel)
theorem dX9_sail_94 : decode cX9_sail 94 = .ok (.if_icmp .ne 7, 3) := od_160 (a := 0) (b := 7) (by decide +kernel) (by decide +kernel)
theorem dX9_sail_97 : decode cX9_sail 97 = .ok (.iconst 1, 1) := od_4  (by decide +kernel)
theorem dX9_sail_98 : decode cX9_sail 98 = .ok (.goto 4, 3) := od_167 (a := 0) (b := 4) (by decide +kernel) (by decide +kernel)
theorem dX9_sail_101 : decode cX9_sail 101 = .ok (.iconst 0, 1) := od_3  (by decide +kernel)
theorem dX9_sail_102 : decode cX9_sail 102 = .ok (.istore_n 3, 1) := od_62  (by decide +kernel)
theorem dX9_sail_103 : decode cX9_sail 103 = .ok (.iload_n 3, 1) := od_29  (by decide +kernel)
theorem dX9_sail_104 : decode cX9_sail 104 = .ok (.ifCond .ne 21, 3) := od_154 (a := 0) (b := 21) (by decide +kernel) (by decide +kernel)
theorem dX9_sail_107 : decode cX9_sail 107 = .ok (.aload_n 1, 1) := od_43  (by decide +kernel)
theorem dX9_sail_108 : decode cX9_sail 108 = .ok (.getfield 50, 3) := od_180 (a := 0) (b := 50) (by decide +kernel) (by decide)
theorem dX9_sail_111 : decode cX9_sail 111 = .ok (.aload_n 1, 1) := od_43  (by decide +kernel)
theorem dX9_sail_112 : decode cX9_sail 112 = .ok (.getfield 130, 3) := od_180 (a := 0) (b := 130) (by decide +kernel) (by decide)
theorem dX9_sail_115 : decode cX9_sail 115 = .ok (.if_icmp .ne 11, 3) := od_160 (a := 0) (b := 11) (by decide +kernel) (by decide +kernel)
theorem dX9_sail_118 : decode cX9_sail 118 = .ok (.aload_n 0, 1) := od_42  (by decide +kernel)
theorem dX9_sail_119 : decode cX9_sail 119 = .ok (.invokevirtual 136, 3) := od_182 (a := 0) (b := 136) (by decide +kernel) (by decide)
theorem dX9_sail_122 : decode cX9_sail 122 = .ok (.ifCond .ne 4, 3) := od_154 (a := 0) (b := 4) (by decide +kernel) (by decide +kernel)
theorem dX9_sail_125 : decode cX9_sail 125 = .ok (.return_, 1) := od_177  (by decide +kernel)
theorem dX9_sail_126 : decode cX9_sail 126 = .ok (.aload_n 1, 1) := od_43  (by decide +kernel)
theorem dX9_sail_127 : decode cX9_sail 127 = .ok (.dup, 1) := od_89  (by decide +kernel)
theorem dX9_sail_128 : decode cX9_sail 128 = .ok (.getfield 50, 3) := od_180 (a := 0) (b := 50) (by decide +kernel) (by decide)
theorem dX9_sail_131 : decode cX9_sail 131 = .ok (.iconst 1, 1) := od_4  (by decide +kernel)
theorem dX9_sail_132 : decode cX9_sail 132 = .ok (.isub, 1) := od_100  (by decide +kernel)
theorem dX9_sail_133 : decode cX9_sail 133 = .ok (.putfield 50, 3) := od_181 (a := 0) (b := 50) (by decide +kernel) (by decide)
theorem dX9_sail_136 : decode cX9_sail 136 = .ok (.aload_n 1, 1) := od_43  (by decide +kernel)
theorem dX9_sail_137 : decode cX9_sail 137 = .ok (.getfield 50, 3) := od_180 (a := 0) (b := 50) (by decide +kernel) (by decide)
theorem dX9_sail_140 : decode cX9_sail 140 = .ok (.ifCond .ne 7, 3) := od_154 (a := 0) (b := 7) (by decide +kernel) (by decide +kernel)
theorem dX9_sail_143 : decode cX9_sail 143 = .ok (.aload_n 1, 1) := od_43  (by decide +kernel)
theorem dX9_sail_144 : decode cX9_sail 144 = .ok (.invokevirtual 100, 3) := od_182 (a := 0) (b := 100) (by decide +kernel) (by decide)
theorem dX9_sail_147 : decode cX9_sail 147 = .ok (.return_, 1) := od_177  (by decide +kernel)
theorem dX9_takesTurn_0 : decode cX9_takesTurn 0 = .ok (.aload_n 0, 1) := od_42  (by decide +kernel)
theorem dX9_takesTurn_1 : decode cX9_takesTurn 1 = .ok (.getfield 25, 3) := od_180 (a := 0) (b := 25) (by decide +kernel) (by decide)
theorem dX9_takesTurn_4 : decode cX9_takesTurn 4 = .ok (.bipush 24, 2) := od_16 (a := 24) (by decide +kernel) (by decide +kernel)
theorem dX9_takesTurn_6 : decode cX9_takesTurn 6 = .ok (.irem, 1) := od_112  (by decide +kernel)
theorem dX9_takesTurn_7 : decode cX9_takesTurn 7 = .ok (.istore_n 1, 1) := od_60  (by decide +kernel)
theorem dX9_takesTurn_8 : decode cX9_takesTurn 8 = .ok (.aload_n 0, 1) := od_42  (by decide +kernel)
theorem dX9_takesTurn_9 : decode cX9_takesTurn 9 = .ok (.getfield 35, 3) := od_180 (a := 0) (b := 35) (by decide +kernel) (by decide)
theorem dX9_takesTurn_12 : decode cX9_takesTurn 12 = .ok (.ifCond .ne 21, 3) := od_154 (a := 0) (b := 21) (by decide +kernel) (by decide +kernel)
theorem dX9_takesTurn_15 : decode cX9_takesTurn 15 = .ok (.iload_n 1, 1) := od_27  (by decide +kernel)
theorem dX9_takesTurn_16 : decode cX9_takesTurn 16 = .ok (.bipush 6, 2) := od_16 (a := 6) (by decide +kernel) (by decide +kernel)
theorem dX9_takesTurn_18 : decode cX9_takesTurn 18 = .ok (.if_icmp .eq 17, 3) := od_159 (a := 0) (b := 17) (by decide +kernel) (by decide +kernel)
theorem dX9_takesTurn_21 : decode cX9_takesTurn 21 = .ok (.iload_n 1, 1) := od_27  (by decide +kernel)
theorem dX9_takesTurn_22 : decode cX9_takesTurn 22 = .ok (.bipush 12, 2) := od_16 (a := 12) (by decide +kernel) (by decide +kernel)
theorem dX9_takesTurn_24 : decode cX9_takesTurn 24 = .ok (.if_icmp .eq 11, 3) := od_159 (a := 0) (b := 11) (by decide +kernel) (by decide +kernel)
theorem dX9_takesTurn_27 : decode cX9_takesTurn 27 = .ok (.iload_n 1, 1) := od_27  (by decide +kernel)
theorem dX9_takesTurn_28 : decode cX9_takesTurn 28 = .ok (.bipush 18, 2) := od_16 (a := 18) (by decide +kernel) (by decide +kernel)
theorem dX9_takesTurn_30 : decode cX9_takesTurn 30 = .ok (.if_icmp .eq 5, 3) := od_159 (a := 0) (b := 5) (by decide +kernel) (by decide +kernel)
theorem dX9_takesTurn_33 : decode cX9_takesTurn 33 = .ok (.iconst 0, 1) := od_3  (by decide +kernel)
theorem dX9_takesTurn_34 : decode cX9_takesTurn 34 = .ok (.ireturn, 1) := od_172  (by decide +kernel)
theorem dX9_takesTurn_35 : decode cX9_takesTurn 35 = .ok (.aload_n 0, 1) := od_42  (by decide +kernel)
theorem dX9_takesTurn_36 : decode cX9_takesTurn 36 = .ok (.iconst 1, 1) := od_4  (by decide +kernel)
theorem dX9_takesTurn_37 : decode cX9_takesTurn 37 = .ok (.putfield 35, 3) := od_181 (a := 0) (b := 35) (by decide +kernel) (by decide)
theorem dX9_takesTurn_40 : decode cX9_takesTurn 40 = .ok (.iconst 1, 1) := od_4  (by decide +kernel)
theorem dX9_takesTurn_41 : decode cX9_takesTurn 41 = .ok (.ireturn, 1) := od_172  (by decide +kernel)
theorem gX9_tonsMayGo_X10_hasTerminal : GoodIn WALL (wsV RX9 140 RX10 yX10_hasTerminal wqX10_hasTerminal) := wg_V wa_476 wa_234 wa_235 wa_14 wa_236
theorem ggX9_tonsMayGo_X11_slotOwner : GoodIn WALL wqX11_slotOwner := wg_c wa_333
theorem gX9_tonsMayGo_X7_draft : GoodIn WALL (wsV RX9 152 RX7 yX7_draft wqX7_draft) := wg_V wa_477 wa_478 wa_479 wa_95 wa_480
theorem gX9_tonsMayGo_X6_meets : GoodIn WALL (wsV RX9 160 RX6 yX6_meets wqX6_meets) := wg_V wa_481 wa_335 wa_336 wa_50 wa_337
theorem dX9_tonsMayGo_0 : decode cX9_tonsMayGo 0 = .ok (.aload_n 2, 1) := od_44  (by decide +kernel)
theorem dX9_tonsMayGo_1 : decode cX9_tonsMayGo 1 = .ok (.getfield 114, 3) := od_180 (a := 0) (b := 114) (by decide +kernel) (by decide)
theorem dX9_tonsMayGo_4 : decode cX9_tonsMayGo 4 = .ok (.istore_n 3, 1) := od_62  (by decide +kernel)
theorem dX9_tonsMayGo_5 : decode cX9_tonsMayGo 5 = .ok (.aload_n 2, 1) := od_44  (by decide +kernel)
theorem dX9_tonsMayGo_6 : decode cX9_tonsMayGo 6 = .ok (.getfield 50, 3) := od_180 (a := 0) (b := 50) (by decide +kernel) (by decide)
theorem dX9_tonsMayGo_9 : decode cX9_tonsMayGo 9 = .ok (.ifCond .gt 14, 3) := od_157 (a := 0) (b := 14) (by decide +kernel) (by decide +kernel)
theorem dX9_tonsMayGo_12 : decode cX9_tonsMayGo 12 = .ok (.aload_n 0, 1) := od_42  (by decide +kernel)
theorem dX9_tonsMayGo_13 : decode cX9_tonsMayGo 13 = .ok (.getfield 9, 3) := od_180 (a := 0) (b := 9) (by decide +kernel) (by decide)
theorem dX9_tonsMayGo_16 : decode cX9_tonsMayGo 16 = .ok (.iload_n 3, 1) := od_29  (by decide +kernel)
theorem dX9_tonsMayGo_17 : decode cX9_tonsMayGo 17 = .ok (.invokevirtual 140, 3) := od_182 (a := 0) (b := 140) (by decide +kernel) (by decide)
theorem dX9_tonsMayGo_20 : decode cX9_tonsMayGo 20 = .ok (.ifCond .ne 5, 3) := od_154 (a := 0) (b := 5) (by decide +kernel) (by decide +kernel)
theorem dX9_tonsMayGo_23 : decode cX9_tonsMayGo 23 = .ok (.iconst 0, 1) := od_3  (by decide +kernel)
theorem dX9_tonsMayGo_24 : decode cX9_tonsMayGo 24 = .ok (.ireturn, 1) := od_172  (by decide +kernel)
theorem dX9_tonsMayGo_25 : decode cX9_tonsMayGo 25 = .ok (.iload_n 3, 1) := od_29  (by decide +kernel)
theorem dX9_tonsMayGo_26 : decode cX9_tonsMayGo 26 = .ok (.iload_n 1, 1) := od_27  (by decide +kernel)
theorem dX9_tonsMayGo_27 : decode cX9_tonsMayGo 27 = .ok (.invokestatic 143, 3) := od_184 (a := 0) (b := 143) (by decide +kernel) (by decide)
theorem dX9_tonsMayGo_30 : decode cX9_tonsMayGo 30 = .ok (.istore 4, 2) := od_54 (n := 4) (by decide +kernel)
theorem dX9_tonsMayGo_32 : decode cX9_tonsMayGo 32 = .ok (.aload_n 0, 1) := od_42  (by decide +kernel)
theorem dX9_tonsMayGo_33 : decode cX9_tonsMayGo 33 = .ok (.getfield 9, 3) := od_180 (a := 0) (b := 9) (by decide +kernel) (by decide)
theorem dX9_tonsMayGo_36 : decode cX9_tonsMayGo 36 = .ok (.getfield 121, 3) := od_180 (a := 0) (b := 121) (by decide +kernel) (by decide)
theorem dX9_tonsMayGo_39 : decode cX9_tonsMayGo 39 = .ok (.iload_n 3, 1) := od_29  (by decide +kernel)
theorem dX9_tonsMayGo_40 : decode cX9_tonsMayGo 40 = .ok (.aaload, 1) := od_50  (by decide +kernel)
theorem dX9_tonsMayGo_41 : decode cX9_tonsMayGo 41 = .ok (.getfield 146, 3) := od_180 (a := 0) (b := 146) (by decide +kernel) (by decide)
theorem dX9_tonsMayGo_44 : decode cX9_tonsMayGo 44 = .ok (.aload_n 0, 1) := od_42  (by decide +kernel)
theorem dX9_tonsMayGo_45 : decode cX9_tonsMayGo 45 = .ok (.getfield 9, 3) := od_180 (a := 0) (b := 9) (by decide +kernel) (by decide)
theorem dX9_tonsMayGo_48 : decode cX9_tonsMayGo 48 = .ok (.getfield 149, 3) := od_180 (a := 0) (b := 149) (by decide +kernel) (by decide)
theorem dX9_tonsMayGo_51 : decode cX9_tonsMayGo 51 = .ok (.aload_n 0, 1) := od_42  (by decide +kernel)
theorem dX9_tonsMayGo_52 : decode cX9_tonsMayGo 52 = .ok (.getfield 25, 3) := od_180 (a := 0) (b := 25) (by decide +kernel) (by decide)
theorem dX9_tonsMayGo_55 : decode cX9_tonsMayGo 55 = .ok (.bipush 25, 2) := od_16 (a := 25) (by decide +kernel) (by decide +kernel)
theorem dX9_tonsMayGo_57 : decode cX9_tonsMayGo 57 = .ok (.irem, 1) := od_112  (by decide +kernel)
theorem dX9_tonsMayGo_58 : decode cX9_tonsMayGo 58 = .ok (.iaload, 1) := od_46  (by decide +kernel)
theorem dX9_tonsMayGo_59 : decode cX9_tonsMayGo 59 = .ok (.iadd, 1) := od_96  (by decide +kernel)
theorem dX9_tonsMayGo_60 : decode cX9_tonsMayGo 60 = .ok (.istore 5, 2) := od_54 (n := 5) (by decide +kernel)
theorem dX9_tonsMayGo_62 : decode cX9_tonsMayGo 62 = .ok (.iload 5, 2) := od_21 (n := 5) (by decide +kernel)
theorem dX9_tonsMayGo_64 : decode cX9_tonsMayGo 64 = .ok (.aload_n 2, 1) := od_44  (by decide +kernel)
theorem dX9_tonsMayGo_65 : decode cX9_tonsMayGo 65 = .ok (.getfield 55, 3) := od_180 (a := 0) (b := 55) (by decide +kernel) (by decide)
theorem dX9_tonsMayGo_68 : decode cX9_tonsMayGo 68 = .ok (.invokevirtual 152, 3) := od_182 (a := 0) (b := 152) (by decide +kernel) (by decide)
theorem dX9_tonsMayGo_71 : decode cX9_tonsMayGo 71 = .ok (.if_icmp .lt 55, 3) := od_161 (a := 0) (b := 55) (by decide +kernel) (by decide +kernel)
theorem dX9_tonsMayGo_74 : decode cX9_tonsMayGo 74 = .ok (.aload_n 0, 1) := od_42  (by decide +kernel)
theorem dX9_tonsMayGo_75 : decode cX9_tonsMayGo 75 = .ok (.getfield 9, 3) := od_180 (a := 0) (b := 9) (by decide +kernel) (by decide)
theorem dX9_tonsMayGo_78 : decode cX9_tonsMayGo 78 = .ok (.getfield 156, 3) := od_180 (a := 0) (b := 156) (by decide +kernel) (by decide)
theorem dX9_tonsMayGo_81 : decode cX9_tonsMayGo 81 = .ok (.iload 4, 2) := od_21 (n := 4) (by decide +kernel)
theorem dX9_tonsMayGo_83 : decode cX9_tonsMayGo 83 = .ok (.iload 4, 2) := od_21 (n := 4) (by decide +kernel)
theorem dX9_tonsMayGo_85 : decode cX9_tonsMayGo 85 = .ok (.aload_n 0, 1) := od_42  (by decide +kernel)
theorem dX9_tonsMayGo_86 : decode cX9_tonsMayGo 86 = .ok (.getfield 25, 3) := od_180 (a := 0) (b := 25) (by decide +kernel) (by decide)
theorem dX9_tonsMayGo_89 : decode cX9_tonsMayGo 89 = .ok (.aload_n 0, 1) := od_42  (by decide +kernel)
theorem dX9_tonsMayGo_90 : decode cX9_tonsMayGo 90 = .ok (.getfield 25, 3) := od_180 (a := 0) (b := 25) (by decide +kernel) (by decide)
theorem dX9_tonsMayGo_93 : decode cX9_tonsMayGo 93 = .ok (.invokevirtual 160, 3) := od_182 (a := 0) (b := 160) (by decide +kernel) (by decide)
theorem dX9_tonsMayGo_96 : decode cX9_tonsMayGo 96 = .ok (.ifCond .eq 30, 3) := od_153 (a := 0) (b := 30) (by decide +kernel) (by decide +kernel)
theorem dX9_tonsMayGo_99 : decode cX9_tonsMayGo 99 = .ok (.aload_n 0, 1) := od_42  (by decide +kernel)
theorem dX9_tonsMayGo_100 : decode cX9_tonsMayGo 100 = .ok (.getfield 9, 3) := od_180 (a := 0) (b := 9) (by decide +kernel) (by decide)
theorem dX9_tonsMayGo_103 : decode cX9_tonsMayGo 103 = .ok (.getfield 166, 3) := od_180 (a := 0) (b := 166) (by decide +kernel) (by decide)
theorem dX9_tonsMayGo_106 : decode cX9_tonsMayGo 106 = .ok (.iload_n 3, 1) := od_29  (by decide +kernel)
theorem dX9_tonsMayGo_107 : decode cX9_tonsMayGo 107 = .ok (.iload_n 3, 1) := od_29  (by decide +kernel)
theorem dX9_tonsMayGo_108 : decode cX9_tonsMayGo 108 = .ok (.aload_n 0, 1) := od_42  (by decide +kernel)
theorem dX9_tonsMayGo_109 : decode cX9_tonsMayGo 109 = .ok (.getfield 25, 3) := od_180 (a := 0) (b := 25) (by decide +kernel) (by decide)
theorem dX9_tonsMayGo_112 : decode cX9_tonsMayGo 112 = .ok (.aload_n 0, 1) := od_42  (by decide +kernel)
theorem dX9_tonsMayGo_113 : decode cX9_tonsMayGo 113 = .ok (.getfield 25, 3) := od_180 (a := 0) (b := 25) (by decide +kernel) (by decide)
theorem dX9_tonsMayGo_116 : decode cX9_tonsMayGo 116 = .ok (.invokevirtual 160, 3) := od_182 (a := 0) (b := 160) (by decide +kernel) (by decide)
theorem dX9_tonsMayGo_119 : decode cX9_tonsMayGo 119 = .ok (.ifCond .ne 7, 3) := od_154 (a := 0) (b := 7) (by decide +kernel) (by decide +kernel)
theorem dX9_tonsMayGo_122 : decode cX9_tonsMayGo 122 = .ok (.iconst 1, 1) := od_4  (by decide +kernel)
theorem dX9_tonsMayGo_123 : decode cX9_tonsMayGo 123 = .ok (.goto 4, 3) := od_167 (a := 0) (b := 4) (by decide +kernel) (by decide +kernel)
theorem dX9_tonsMayGo_126 : decode cX9_tonsMayGo 126 = .ok (.iconst 0, 1) := od_3  (by decide +kernel)
theorem dX9_tonsMayGo_127 : decode cX9_tonsMayGo 127 = .ok (.ireturn, 1) := od_172  (by decide +kernel)
theorem gX9_load_X7_top : GoodIn WALL (wsV RX9 180 RX7 yX7_top wqX7_top) := wg_V wa_488 wa_489 wa_490 wa_95 wa_491
theorem gX9_load_X7_fill : GoodIn WALL (wsV RX9 192 RX7 yX7_fill wqX7_fill) := wg_V wa_492 wa_493 wa_494 wa_95 wa_495
theorem gX9_load_X5_endOrder : GoodIn WALL (wsV RX9 100 RX5 yX5_endOrder wqX5_endOrder) := wg_V wa_460 wa_461 wa_462 wa_64 wa_463
theorem dX9_load_0 : decode cX9_load 0 = .ok (.aload_n 0, 1) := od_42  (by decide +kernel)
theorem dX9_load_1 : decode cX9_load 1 = .ok (.getfield 9, 3) := od_180 (a := 0) (b := 9) (by decide +kernel) (by decide)
theorem dX9_load_4 : decode cX9_load 4 = .ok (.getfield 121, 3) := od_180 (a := 0) (b := 121) (by decide +kernel) (by decide)
theorem dX9_load_7 : decode cX9_load 7 = .ok (.aload_n 1, 1) := od_43  (by decide +kernel)
theorem dX9_load_8 : decode cX9_load 8 = .ok (.getfield 114, 3) := od_180 (a := 0) (b := 114) (by decide +kernel) (by decide)
theorem dX9_load_11 : decode cX9_load 11 = .ok (.aaload, 1) := od_50  (by decide +kernel)
theorem dX9_load_12 : decode cX9_load 12 = .ok (.astore_n 2, 1) := od_77  (by decide +kernel)
theorem dX9_load_13 : decode cX9_load 13 = .ok (.aload_n 1, 1) := od_43  (by decide +kernel)
theorem dX9_load_14 : decode cX9_load 14 = .ok (.getfield 55, 3) := od_180 (a := 0) (b := 55) (by decide +kernel) (by decide)
theorem dX9_load_17 : decode cX9_load 17 = .ok (.getfield 169, 3) := od_180 (a := 0) (b := 169) (by decide +kernel) (by decide)
theorem dX9_load_20 : decode cX9_load 20 = .ok (.sipush 200, 3) := od_17 (a := 0) (b := 200) (by decide +kernel) (by decide +kernel)
theorem dX9_load_23 : decode cX9_load 23 = .ok (.if_icmp .le 16, 3) := od_164 (a := 0) (b := 16) (by decide +kernel) (by decide +kernel)
theorem dX9_load_26 : decode cX9_load 26 = .ok (.iconst 1, 1) := od_4  (by decide +kernel)
theorem dX9_load_27 : decode cX9_load 27 = .ok (.aload_n 2, 1) := od_44  (by decide +kernel)
theorem dX9_load_28 : decode cX9_load 28 = .ok (.getfield 172, 3) := od_180 (a := 0) (b := 172) (by decide +kernel) (by decide)
theorem dX9_load_31 : decode cX9_load 31 = .ok (.iconst 4, 1) := od_7  (by decide +kernel)
theorem dX9_load_32 : decode cX9_load 32 = .ok (.idiv, 1) := od_108  (by decide +kernel)
theorem dX9_load_33 : decode cX9_load 33 = .ok (.invokestatic 175, 3) := od_184 (a := 0) (b := 175) (by decide +kernel) (by decide)
theorem dX9_load_36 : decode cX9_load 36 = .ok (.goto 7, 3) := od_167 (a := 0) (b := 7) (by decide +kernel) (by decide +kernel)
theorem dX9_load_39 : decode cX9_load 39 = .ok (.aload_n 2, 1) := od_44  (by decide +kernel)
theorem dX9_load_40 : decode cX9_load 40 = .ok (.getfield 172, 3) := od_180 (a := 0) (b := 172) (by decide +kernel) (by decide)
theorem dX9_load_43 : decode cX9_load 43 = .ok (.istore_n 3, 1) := od_62  (by decide +kernel)
theorem dX9_load_44 : decode cX9_load 44 = .ok (.iconst 0, 1) := od_3  (by decide +kernel)
theorem dX9_load_45 : decode cX9_load 45 = .ok (.aload_n 1, 1) := od_43  (by decide +kernel)
theorem dX9_load_46 : decode cX9_load 46 = .ok (.getfield 55, 3) := od_180 (a := 0) (b := 55) (by decide +kernel) (by decide)
theorem dX9_load_49 : decode cX9_load 49 = .ok (.invokevirtual 180, 3) := od_182 (a := 0) (b := 180) (by decide +kernel) (by decide)
theorem dX9_load_52 : decode cX9_load 52 = .ok (.aload_n 1, 1) := od_43  (by decide +kernel)
theorem dX9_load_53 : decode cX9_load 53 = .ok (.getfield 55, 3) := od_180 (a := 0) (b := 55) (by decide +kernel) (by decide)
theorem dX9_load_56 : decode cX9_load 56 = .ok (.getfield 183, 3) := od_180 (a := 0) (b := 183) (by decide +kernel) (by decide)
theorem dX9_load_59 : decode cX9_load 59 = .ok (.isub, 1) := od_100  (by decide +kernel)
theorem dX9_load_60 : decode cX9_load 60 = .ok (.invokestatic 175, 3) := od_184 (a := 0) (b := 175) (by decide +kernel) (by decide)
theorem dX9_load_63 : decode cX9_load 63 = .ok (.istore 4, 2) := od_54 (n := 4) (by decide +kernel)
theorem dX9_load_65 : decode cX9_load 65 = .ok (.iload_n 3, 1) := od_29  (by decide +kernel)
theorem dX9_load_66 : decode cX9_load 66 = .ok (.aload_n 1, 1) := od_43  (by decide +kernel)
theorem dX9_load_67 : decode cX9_load 67 = .ok (.getfield 97, 3) := od_180 (a := 0) (b := 97) (by decide +kernel) (by decide)
theorem dX9_load_70 : decode cX9_load 70 = .ok (.iconst 0, 1) := od_3  (by decide +kernel)
theorem dX9_load_71 : decode cX9_load 71 = .ok (.iaload, 1) := od_46  (by decide +kernel)
theorem dX9_load_72 : decode cX9_load 72 = .ok (.invokestatic 186, 3) := od_184 (a := 0) (b := 186) (by decide +kernel) (by decide)
theorem dX9_load_75 : decode cX9_load 75 = .ok (.aload_n 2, 1) := od_44  (by decide +kernel)
theorem dX9_load_76 : decode cX9_load 76 = .ok (.getfield 189, 3) := od_180 (a := 0) (b := 189) (by decide +kernel) (by decide)
theorem dX9_load_79 : decode cX9_load 79 = .ok (.iload 4, 2) := od_21 (n := 4) (by decide +kernel)
theorem dX9_load_81 : decode cX9_load 81 = .ok (.invokestatic 186, 3) := od_184 (a := 0) (b := 186) (by decide +kernel) (by decide)
theorem dX9_load_84 : decode cX9_load 84 = .ok (.invokestatic 186, 3) := od_184 (a := 0) (b := 186) (by decide +kernel) (by decide)
theorem dX9_load_87 : decode cX9_load 87 = .ok (.istore 5, 2) := od_54 (n := 5) (by decide +kernel)
theorem dX9_load_89 : decode cX9_load 89 = .ok (.aload_n 2, 1) := od_44  (by decide +kernel)
theorem dX9_load_90 : decode cX9_load 90 = .ok (.dup, 1) := od_89  (by decide +kernel)
theorem dX9_load_91 : decode cX9_load 91 = .ok (.getfield 189, 3) := od_180 (a := 0) (b := 189) (by decide +kernel) (by decide)
theorem dX9_load_94 : decode cX9_load 94 = .ok (.iload 5, 2) := od_21 (n := 5) (by decide +kernel)
theorem dX9_load_96 : decode cX9_load 96 = .ok (.isub, 1) := od_100  (by decide +kernel)
theorem dX9_load_97 : decode cX9_load 97 = .ok (.putfield 189, 3) := od_181 (a := 0) (b := 189) (by decide +kernel) (by decide)
theorem dX9_load_100 : decode cX9_load 100 = .ok (.aload_n 1, 1) := od_43  (by decide +kernel)
theorem dX9_load_101 : decode cX9_load 101 = .ok (.getfield 55, 3) := od_180 (a := 0) (b := 55) (by decide +kernel) (by decide)
theorem dX9_load_104 : decode cX9_load 104 = .ok (.aload_n 1, 1) := od_43  (by decide +kernel)
theorem dX9_load_105 : decode cX9_load 105 = .ok (.getfield 114, 3) := od_180 (a := 0) (b := 114) (by decide +kernel) (by decide)
theorem dX9_load_108 : decode cX9_load 108 = .ok (.iload 5, 2) := od_21 (n := 5) (by decide +kernel)
theorem dX9_load_110 : decode cX9_load 110 = .ok (.invokevirtual 192, 3) := od_182 (a := 0) (b := 192) (by decide +kernel) (by decide)
theorem dX9_load_113 : decode cX9_load 113 = .ok (.aload_n 1, 1) := od_43  (by decide +kernel)
theorem dX9_load_114 : decode cX9_load 114 = .ok (.getfield 103, 3) := od_180 (a := 0) (b := 103) (by decide +kernel) (by decide)
theorem dX9_load_117 : decode cX9_load 117 = .ok (.iconst 0, 1) := od_3  (by decide +kernel)
theorem dX9_load_118 : decode cX9_load 118 = .ok (.dup2, 1) := od_92  (by decide +kernel)
theorem dX9_load_119 : decode cX9_load 119 = .ok (.laload, 1) := od_47  (by decide +kernel)
theorem dX9_load_120 : decode cX9_load 120 = .ok (.iload 5, 2) := od_21 (n := 5) (by decide +kernel)
theorem dX9_load_122 : decode cX9_load 122 = .ok (.i2l, 1) := od_133  (by decide +kernel)
theorem dX9_load_123 : decode cX9_load 123 = .ok (.ladd, 1) := od_97  (by decide +kernel)
theorem dX9_load_124 : decode cX9_load 124 = .ok (.lastore, 1) := od_80  (by decide +kernel)
theorem dX9_load_125 : decode cX9_load 125 = .ok (.aload_n 1, 1) := od_43  (by decide +kernel)
theorem dX9_load_126 : decode cX9_load 126 = .ok (.getfield 97, 3) := od_180 (a := 0) (b := 97) (by decide +kernel) (by decide)
theorem dX9_load_129 : decode cX9_load 129 = .ok (.iconst 0, 1) := od_3  (by decide +kernel)
theorem dX9_load_130 : decode cX9_load 130 = .ok (.dup2, 1) := od_92  (by decide +kernel)
theorem dX9_load_131 : decode cX9_load 131 = .ok (.iaload, 1) := od_46  (by decide +kernel)
theorem dX9_load_132 : decode cX9_load 132 = .ok (.iload 5, 2) := od_21 (n := 5) (by decide +kernel)
theorem dX9_load_134 : decode cX9_load 134 = .ok (.isub, 1) := od_100  (by decide +kernel)
theorem dX9_load_135 : decode cX9_load 135 = .ok (.iastore, 1) := od_79  (by decide +kernel)
theorem dX9_load_136 : decode cX9_load 136 = .ok (.iload 5, 2) := od_21 (n := 5) (by decide +kernel)
theorem dX9_load_138 : decode cX9_load 138 = .ok (.ifCond .eq 12, 3) := od_153 (a := 0) (b := 12) (by decide +kernel) (by decide +kernel)
theorem dX9_load_141 : decode cX9_load 141 = .ok (.aload_n 1, 1) := od_43  (by decide +kernel)
theorem dX9_load_142 : decode cX9_load 142 = .ok (.getfield 97, 3) := od_180 (a := 0) (b := 97) (by decide +kernel) (by decide)
theorem dX9_load_145 : decode cX9_load 145 = .ok (.iconst 0, 1) := od_3  (by decide +kernel)
theorem dX9_load_146 : decode cX9_load 146 = .ok (.iaload, 1) := od_46  (by decide +kernel)
theorem dX9_load_147 : decode cX9_load 147 = .ok (.ifCond .ne 7, 3) := od_154 (a := 0) (b := 7) (by decide +kernel) (by decide +kernel)
theorem dX9_load_150 : decode cX9_load 150 = .ok (.aload_n 1, 1) := od_43  (by decide +kernel)
theorem dX9_load_151 : decode cX9_load 151 = .ok (.invokevirtual 100, 3) := od_182 (a := 0) (b := 100) (by decide +kernel) (by decide)
theorem dX9_load_154 : decode cX9_load 154 = .ok (.return_, 1) := od_177  (by decide +kernel)
theorem gX9_land_X7_heel : GoodIn WALL (wsV RX9 196 RX7 yX7_heel wqX7_heel) := wg_V wa_500 wa_440 wa_441 wa_95 wa_442
theorem gX9_land_X5_putAshore : GoodIn WALL (wsV RX9 202 RX5 yX5_putAshore wqX5_putAshore) := wg_V wa_501 wa_502 wa_503 wa_64 wa_504
theorem gX9_land_X9_keepLanding : GoodIn WALL (wsV RX9 205 RX9 yX9_keepLanding wqX9_keepLanding) := wg_V wa_508 wa_509 wa_510 wa_19 wa_511
theorem gX9_land_X5_forgetLanding : GoodIn WALL (wsV RX9 208 RX5 yX5_forgetLanding wqX5_forgetLanding) := wg_V wa_532 wa_263 wa_264 wa_64 wa_265
theorem gX9_land_X5_endOrder : GoodIn WALL (wsV RX9 100 RX5 yX5_endOrder wqX5_endOrder) := wg_V wa_460 wa_461 wa_462 wa_64 wa_463
theorem dX9_land_0 : decode cX9_land 0 = .ok (.aload_n 0, 1) := od_42  (by decide +kernel)
theorem dX9_land_1 : decode cX9_land 1 = .ok (.getfield 9, 3) := od_180 (a := 0) (b := 9) (by decide +kernel) (by decide)
theorem dX9_land_4 : decode cX9_land 4 = .ok (.getfield 121, 3) := od_180 (a := 0) (b := 121) (by decide +kernel) (by decide)
theorem dX9_land_7 : decode cX9_land 7 = .ok (.aload_n 2, 1) := od_44  (by decide +kernel)
theorem dX9_land_8 : decode cX9_land 8 = .ok (.getfield 114, 3) := od_180 (a := 0) (b := 114) (by decide +kernel) (by decide)
theorem dX9_land_11 : decode cX9_land 11 = .ok (.aaload, 1) := od_50  (by decide +kernel)
theorem dX9_land_12 : decode cX9_land 12 = .ok (.astore_n 3, 1) := od_78  (by decide +kernel)
theorem dX9_land_13 : decode cX9_land 13 = .ok (.iconst 0, 1) := od_3  (by decide +kernel)
theorem dX9_land_14 : decode cX9_land 14 = .ok (.aload_n 2, 1) := od_44  (by decide +kernel)
theorem dX9_land_15 : decode cX9_land 15 = .ok (.getfield 55, 3) := od_180 (a := 0) (b := 55) (by decide +kernel) (by decide)
theorem dX9_land_18 : decode cX9_land 18 = .ok (.getfield 183, 3) := od_180 (a := 0) (b := 183) (by decide +kernel) (by decide)
theorem dX9_land_21 : decode cX9_land 21 = .ok (.aload_n 2, 1) := od_44  (by decide +kernel)
theorem dX9_land_22 : decode cX9_land 22 = .ok (.getfield 55, 3) := od_180 (a := 0) (b := 55) (by decide +kernel) (by decide)
theorem dX9_land_25 : decode cX9_land 25 = .ok (.invokevirtual 196, 3) := od_182 (a := 0) (b := 196) (by decide +kernel) (by decide)
theorem dX9_land_28 : decode cX9_land 28 = .ok (.isub, 1) := od_100  (by decide +kernel)
theorem dX9_land_29 : decode cX9_land 29 = .ok (.invokestatic 175, 3) := od_184 (a := 0) (b := 175) (by decide +kernel) (by decide)
theorem dX9_land_32 : decode cX9_land 32 = .ok (.istore 4, 2) := od_54 (n := 4) (by decide +kernel)
theorem dX9_land_34 : decode cX9_land 34 = .ok (.iconst 0, 1) := od_3  (by decide +kernel)
theorem dX9_land_35 : decode cX9_land 35 = .ok (.aload_n 3, 1) := od_45  (by decide +kernel)
theorem dX9_land_36 : decode cX9_land 36 = .ok (.getfield 199, 3) := od_180 (a := 0) (b := 199) (by decide +kernel) (by decide)
theorem dX9_land_39 : decode cX9_land 39 = .ok (.aload_n 3, 1) := od_45  (by decide +kernel)
theorem dX9_land_40 : decode cX9_land 40 = .ok (.getfield 189, 3) := od_180 (a := 0) (b := 189) (by decide +kernel) (by decide)
theorem dX9_land_43 : decode cX9_land 43 = .ok (.isub, 1) := od_100  (by decide +kernel)
theorem dX9_land_44 : decode cX9_land 44 = .ok (.invokestatic 175, 3) := od_184 (a := 0) (b := 175) (by decide +kernel) (by decide)
theorem dX9_land_47 : decode cX9_land 47 = .ok (.istore 5, 2) := od_54 (n := 5) (by decide +kernel)
theorem dX9_land_49 : decode cX9_land 49 = .ok (.aload_n 3, 1) := od_45  (by decide +kernel)
theorem dX9_land_50 : decode cX9_land 50 = .ok (.getfield 172, 3) := od_180 (a := 0) (b := 172) (by decide +kernel) (by decide)
theorem dX9_land_53 : decode cX9_land 53 = .ok (.aload_n 2, 1) := od_44  (by decide +kernel)
theorem dX9_land_54 : decode cX9_land 54 = .ok (.getfield 97, 3) := od_180 (a := 0) (b := 97) (by decide +kernel) (by decide)
theorem dX9_land_57 : decode cX9_land 57 = .ok (.iconst 0, 1) := od_3  (by decide +kernel)
theorem dX9_land_58 : decode cX9_land 58 = .ok (.iaload, 1) := od_46  (by decide +kernel)
theorem dX9_land_59 : decode cX9_land 59 = .ok (.invokestatic 186, 3) := od_184 (a := 0) (b := 186) (by decide +kernel) (by decide)
theorem dX9_land_62 : decode cX9_land 62 = .ok (.iload 4, 2) := od_21 (n := 4) (by decide +kernel)
theorem dX9_land_64 : decode cX9_land 64 = .ok (.iload 5, 2) := od_21 (n := 5) (by decide +kernel)
theorem dX9_land_66 : decode cX9_land 66 = .ok (.invokestatic 186, 3) := od_184 (a := 0) (b := 186) (by decide +kernel) (by decide)
theorem dX9_land_69 : decode cX9_land 69 = .ok (.invokestatic 186, 3) := od_184 (a := 0) (b := 186) (by decide +kernel) (by decide)
theorem dX9_land_72 : decode cX9_land 72 = .ok (.istore 6, 2) := od_54 (n := 6) (by decide +kernel)
theorem dX9_land_74 : decode cX9_land 74 = .ok (.iload 6, 2) := od_21 (n := 6) (by decide +kernel)
theorem dX9_land_76 : decode cX9_land 76 = .ok (.ifCond .le 35, 3) := od_158 (a := 0) (b := 35) (by decide +kernel) (by decide +kernel)
theorem dX9_land_79 : decode cX9_land 79 = .ok (.aload_n 3, 1) := od_45  (by decide +kernel)
theorem dX9_land_80 : decode cX9_land 80 = .ok (.dup, 1) := od_89  (by decide +kernel)
theorem dX9_land_81 : decode cX9_land 81 = .ok (.getfield 189, 3) := od_180 (a := 0) (b := 189) (by decide +kernel) (by decide)
theorem dX9_land_84 : decode cX9_land 84 = .ok (.iload 6, 2) := od_21 (n := 6) (by decide +kernel)
theorem dX9_land_86 : decode cX9_land 86 = .ok (.iadd, 1) := od_96  (by decide +kernel)
theorem dX9_land_87 : decode cX9_land 87 = .ok (.putfield 189, 3) := od_181 (a := 0) (b := 189) (by decide +kernel) (by decide)
theorem dX9_land_90 : decode cX9_land 90 = .ok (.aload_n 2, 1) := od_44  (by decide +kernel)
theorem dX9_land_91 : decode cX9_land 91 = .ok (.iload 6, 2) := od_21 (n := 6) (by decide +kernel)
theorem dX9_land_93 : decode cX9_land 93 = .ok (.aload_n 0, 1) := od_42  (by decide +kernel)
theorem dX9_land_94 : decode cX9_land 94 = .ok (.getfield 25, 3) := od_180 (a := 0) (b := 25) (by decide +kernel) (by decide)
theorem dX9_land_97 : decode cX9_land 97 = .ok (.invokevirtual 202, 3) := od_182 (a := 0) (b := 202) (by decide +kernel) (by decide)
theorem dX9_land_100 : decode cX9_land 100 = .ok (.aload_n 2, 1) := od_44  (by decide +kernel)
theorem dX9_land_101 : decode cX9_land 101 = .ok (.getfield 97, 3) := od_180 (a := 0) (b := 97) (by decide +kernel) (by decide)
theorem dX9_land_104 : decode cX9_land 104 = .ok (.iconst 0, 1) := od_3  (by decide +kernel)
theorem dX9_land_105 : decode cX9_land 105 = .ok (.dup2, 1) := od_92  (by decide +kernel)
theorem dX9_land_106 : decode cX9_land 106 = .ok (.iaload, 1) := od_46  (by decide +kernel)
theorem dX9_land_107 : decode cX9_land 107 = .ok (.iload 6, 2) := od_21 (n := 6) (by decide +kernel)
theorem dX9_land_109 : decode cX9_land 109 = .ok (.isub, 1) := od_100  (by decide +kernel)
theorem dX9_land_110 : decode cX9_land 110 = .ok (.iastore, 1) := od_79  (by decide +kernel)
theorem dX9_land_111 : decode cX9_land 111 = .ok (.iload 6, 2) := od_21 (n := 6) (by decide +kernel)
theorem dX9_land_113 : decode cX9_land 113 = .ok (.ifCond .eq 12, 3) := od_153 (a := 0) (b := 12) (by decide +kernel) (by decide +kernel)
theorem dX9_land_116 : decode cX9_land 116 = .ok (.aload_n 2, 1) := od_44  (by decide +kernel)
theorem dX9_land_117 : decode cX9_land 117 = .ok (.getfield 97, 3) := od_180 (a := 0) (b := 97) (by decide +kernel) (by decide)
theorem dX9_land_120 : decode cX9_land 120 = .ok (.iconst 0, 1) := od_3  (by decide +kernel)
theorem dX9_land_121 : decode cX9_land 121 = .ok (.iaload, 1) := od_46  (by decide +kernel)
theorem dX9_land_122 : decode cX9_land 122 = .ok (.ifCond .ne 17, 3) := od_154 (a := 0) (b := 17) (by decide +kernel) (by decide +kernel)
theorem dX9_land_125 : decode cX9_land 125 = .ok (.aload_n 0, 1) := od_42  (by decide +kernel)
theorem dX9_land_126 : decode cX9_land 126 = .ok (.iload_n 1, 1) := od_27  (by decide +kernel)
theorem dX9_land_127 : decode cX9_land 127 = .ok (.aload_n 2, 1) := od_44  (by decide +kernel)
theorem dX9_land_128 : decode cX9_land 128 = .ok (.invokevirtual 205, 3) := od_182 (a := 0) (b := 205) (by decide +kernel) (by decide)
theorem dX9_land_131 : decode cX9_land 131 = .ok (.aload_n 2, 1) := od_44  (by decide +kernel)
theorem dX9_land_132 : decode cX9_land 132 = .ok (.invokevirtual 208, 3) := od_182 (a := 0) (b := 208) (by decide +kernel) (by decide)
theorem dX9_land_135 : decode cX9_land 135 = .ok (.aload_n 2, 1) := od_44  (by decide +kernel)
theorem dX9_land_136 : decode cX9_land 136 = .ok (.invokevirtual 100, 3) := od_182 (a := 0) (b := 100) (by decide +kernel) (by decide)
theorem dX9_land_139 : decode cX9_land 139 = .ok (.return_, 1) := od_177  (by decide +kernel)
theorem gX9_keepLanding_X4_addRow : GoodIn WALL (wsV RX9 218 RX4 yX4_addRow wqX4_addRow) := wg_V wa_513 wa_514 wa_515 wa_56 wa_516
theorem gX9_keepLanding_X4_set : GoodIn WALL (wsV RX9 223 RX4 yX4_set wqX4_set) := wg_V wa_524 wa_525 wa_526 wa_56 wa_527
theorem dX9_keepLanding_0 : decode cX9_keepLanding 0 = .ok (.aload_n 2, 1) := od_44  (by decide +kernel)
theorem dX9_keepLanding_1 : decode cX9_keepLanding 1 = .ok (.getfield 211, 3) := od_180 (a := 0) (b := 211) (by decide +kernel) (by decide)
theorem dX9_keepLanding_4 : decode cX9_keepLanding 4 = .ok (.ifCond .le 16, 3) := od_158 (a := 0) (b := 16) (by decide +kernel) (by decide +kernel)
theorem dX9_keepLanding_7 : decode cX9_keepLanding 7 = .ok (.aload_n 0, 1) := od_42  (by decide +kernel)
theorem dX9_keepLanding_8 : decode cX9_keepLanding 8 = .ok (.getfield 9, 3) := od_180 (a := 0) (b := 9) (by decide +kernel) (by decide)
theorem dX9_keepLanding_11 : decode cX9_keepLanding 11 = .ok (.getfield 214, 3) := od_180 (a := 0) (b := 214) (by decide +kernel) (by decide)
theorem dX9_keepLanding_14 : decode cX9_keepLanding 14 = .ok (.invokevirtual 218, 3) := od_182 (a := 0) (b := 218) (by decide +kernel) (by decide)
theorem dX9_keepLanding_17 : decode cX9_keepLanding 17 = .ok (.goto 4, 3) := od_167 (a := 0) (b := 4) (by decide +kernel) (by decide +kernel)
theorem dX9_keepLanding_20 : decode cX9_keepLanding 20 = .ok (.iconst (-1), 1) := od_2  (by decide +kernel)
theorem dX9_keepLanding_21 : decode cX9_keepLanding 21 = .ok (.istore_n 3, 1) := od_62  (by decide +kernel)
theorem dX9_keepLanding_22 : decode cX9_keepLanding 22 = .ok (.iload_n 3, 1) := od_29  (by decide +kernel)
theorem dX9_keepLanding_23 : decode cX9_keepLanding 23 = .ok (.iconst (-1), 1) := od_2  (by decide +kernel)
theorem dX9_keepLanding_24 : decode cX9_keepLanding 24 = .ok (.if_icmp .ne 4, 3) := od_160 (a := 0) (b := 4) (by decide +kernel) (by decide +kernel)
theorem dX9_keepLanding_27 : decode cX9_keepLanding 27 = .ok (.return_, 1) := od_177  (by decide +kernel)
theorem dX9_keepLanding_28 : decode cX9_keepLanding 28 = .ok (.aload_n 0, 1) := od_42  (by decide +kernel)
theorem dX9_keepLanding_29 : decode cX9_keepLanding 29 = .ok (.getfield 9, 3) := od_180 (a := 0) (b := 9) (by decide +kernel) (by decide)
theorem dX9_keepLanding_32 : decode cX9_keepLanding 32 = .ok (.getfield 214, 3) := od_180 (a := 0) (b := 214) (by decide +kernel) (by decide)
theorem dX9_keepLanding_35 : decode cX9_keepLanding 35 = .ok (.iload_n 3, 1) := od_29  (by decide +kernel)
theorem dX9_keepLanding_36 : decode cX9_keepLanding 36 = .ok (.iconst 0, 1) := od_3  (by decide +kernel)
theorem dX9_keepLanding_37 : decode cX9_keepLanding 37 = .ok (.iload_n 1, 1) := od_27  (by decide +kernel)
theorem dX9_keepLanding_38 : decode cX9_keepLanding 38 = .ok (.i2l, 1) := od_133  (by decide +kernel)
theorem dX9_keepLanding_39 : decode cX9_keepLanding 39 = .ok (.invokevirtual 223, 3) := od_182 (a := 0) (b := 223) (by decide +kernel) (by decide)
theorem dX9_keepLanding_42 : decode cX9_keepLanding 42 = .ok (.aload_n 0, 1) := od_42  (by decide +kernel)
theorem dX9_keepLanding_43 : decode cX9_keepLanding 43 = .ok (.getfield 9, 3) := od_180 (a := 0) (b := 9) (by decide +kernel) (by decide)
theorem dX9_keepLanding_46 : decode cX9_keepLanding 46 = .ok (.getfield 214, 3) := od_180 (a := 0) (b := 214) (by decide +kernel) (by decide)
theorem dX9_keepLanding_49 : decode cX9_keepLanding 49 = .ok (.iload_n 3, 1) := od_29  (by decide +kernel)
theorem dX9_keepLanding_50 : decode cX9_keepLanding 50 = .ok (.iconst 1, 1) := od_4  (by decide +kernel)
theorem dX9_keepLanding_51 : decode cX9_keepLanding 51 = .ok (.aload_n 2, 1) := od_44  (by decide +kernel)
theorem dX9_keepLanding_52 : decode cX9_keepLanding 52 = .ok (.getfield 114, 3) := od_180 (a := 0) (b := 114) (by decide +kernel) (by decide)
theorem dX9_keepLanding_55 : decode cX9_keepLanding 55 = .ok (.i2l, 1) := od_133  (by decide +kernel)
theorem dX9_keepLanding_56 : decode cX9_keepLanding 56 = .ok (.invokevirtual 223, 3) := od_182 (a := 0) (b := 223) (by decide +kernel) (by decide)
theorem dX9_keepLanding_59 : decode cX9_keepLanding 59 = .ok (.aload_n 0, 1) := od_42  (by decide +kernel)
theorem dX9_keepLanding_60 : decode cX9_keepLanding 60 = .ok (.getfield 9, 3) := od_180 (a := 0) (b := 9) (by decide +kernel) (by decide)
theorem dX9_keepLanding_63 : decode cX9_keepLanding 63 = .ok (.getfield 214, 3) := od_180 (a := 0) (b := 214) (by decide +kernel) (by decide)
theorem dX9_keepLanding_66 : decode cX9_keepLanding 66 = .ok (.iload_n 3, 1) := od_29  (by decide +kernel)
theorem dX9_keepLanding_67 : decode cX9_keepLanding 67 = .ok (.iconst 2, 1) := od_5  (by decide +kernel)
theorem dX9_keepLanding_68 : decode cX9_keepLanding 68 = .ok (.aload_n 2, 1) := od_44  (by decide +kernel)
theorem dX9_keepLanding_69 : decode cX9_keepLanding 69 = .ok (.getfield 227, 3) := od_180 (a := 0) (b := 227) (by decide +kernel) (by decide)
theorem dX9_keepLanding_72 : decode cX9_keepLanding 72 = .ok (.i2l, 1) := od_133  (by decide +kernel)
theorem dX9_keepLanding_73 : decode cX9_keepLanding 73 = .ok (.invokevirtual 223, 3) := od_182 (a := 0) (b := 223) (by decide +kernel) (by decide)
theorem dX9_keepLanding_76 : decode cX9_keepLanding 76 = .ok (.aload_n 0, 1) := od_42  (by decide +kernel)
theorem dX9_keepLanding_77 : decode cX9_keepLanding 77 = .ok (.getfield 9, 3) := od_180 (a := 0) (b := 9) (by decide +kernel) (by decide)
theorem dX9_keepLanding_80 : decode cX9_keepLanding 80 = .ok (.getfield 214, 3) := od_180 (a := 0) (b := 214) (by decide +kernel) (by decide)
theorem dX9_keepLanding_83 : decode cX9_keepLanding 83 = .ok (.iload_n 3, 1) := od_29  (by decide +kernel)
theorem dX9_keepLanding_84 : decode cX9_keepLanding 84 = .ok (.iconst 3, 1) := od_6  (by decide +kernel)
theorem dX9_keepLanding_85 : decode cX9_keepLanding 85 = .ok (.aload_n 2, 1) := od_44  (by decide +kernel)
theorem dX9_keepLanding_86 : decode cX9_keepLanding 86 = .ok (.getfield 230, 3) := od_180 (a := 0) (b := 230) (by decide +kernel) (by decide)
theorem dX9_keepLanding_89 : decode cX9_keepLanding 89 = .ok (.i2l, 1) := od_133  (by decide +kernel)
theorem dX9_keepLanding_90 : decode cX9_keepLanding 90 = .ok (.invokevirtual 223, 3) := od_182 (a := 0) (b := 223) (by decide +kernel) (by decide)
theorem dX9_keepLanding_93 : decode cX9_keepLanding 93 = .ok (.aload_n 0, 1) := od_42  (by decide +kernel)
theorem dX9_keepLanding_94 : decode cX9_keepLanding 94 = .ok (.getfield 9, 3) := od_180 (a := 0) (b := 9) (by decide +kernel) (by decide)
theorem dX9_keepLanding_97 : decode cX9_keepLanding 97 = .ok (.getfield 214, 3) := od_180 (a := 0) (b := 214) (by decide +kernel) (by decide)
theorem dX9_keepLanding_100 : decode cX9_keepLanding 100 = .ok (.iload_n 3, 1) := od_29  (by decide +kernel)
theorem dX9_keepLanding_101 : decode cX9_keepLanding 101 = .ok (.iconst 4, 1) := od_7  (by decide +kernel)
theorem dX9_keepLanding_102 : decode cX9_keepLanding 102 = .ok (.aload_n 2, 1) := od_44  (by decide +kernel)
theorem dX9_keepLanding_103 : decode cX9_keepLanding 103 = .ok (.getfield 211, 3) := od_180 (a := 0) (b := 211) (by decide +kernel) (by decide)
theorem dX9_keepLanding_106 : decode cX9_keepLanding 106 = .ok (.i2l, 1) := od_133  (by decide +kernel)
theorem dX9_keepLanding_107 : decode cX9_keepLanding 107 = .ok (.invokevirtual 223, 3) := od_182 (a := 0) (b := 223) (by decide +kernel) (by decide)
theorem dX9_keepLanding_110 : decode cX9_keepLanding 110 = .ok (.iconst 0, 1) := od_3  (by decide +kernel)
theorem dX9_keepLanding_111 : decode cX9_keepLanding 111 = .ok (.istore 4, 2) := od_54 (n := 4) (by decide +kernel)
theorem dX9_keepLanding_113 : decode cX9_keepLanding 113 = .ok (.iload 4, 2) := od_21 (n := 4) (by decide +kernel)
theorem dX9_keepLanding_115 : decode cX9_keepLanding 115 = .ok (.bipush 6, 2) := od_16 (a := 6) (by decide +kernel) (by decide +kernel)
theorem dX9_keepLanding_117 : decode cX9_keepLanding 117 = .ok (.if_icmp .ge 32, 3) := od_162 (a := 0) (b := 32) (by decide +kernel) (by decide +kernel)
theorem dX9_keepLanding_120 : decode cX9_keepLanding 120 = .ok (.aload_n 0, 1) := od_42  (by decide +kernel)
theorem dX9_keepLanding_121 : decode cX9_keepLanding 121 = .ok (.getfield 9, 3) := od_180 (a := 0) (b := 9) (by decide +kernel) (by decide)
theorem dX9_keepLanding_124 : decode cX9_keepLanding 124 = .ok (.getfield 214, 3) := od_180 (a := 0) (b := 214) (by decide +kernel) (by decide)
theorem dX9_keepLanding_127 : decode cX9_keepLanding 127 = .ok (.iload_n 3, 1) := od_29  (by decide +kernel)
theorem dX9_keepLanding_128 : decode cX9_keepLanding 128 = .ok (.iconst 5, 1) := od_8  (by decide +kernel)
theorem dX9_keepLanding_129 : decode cX9_keepLanding 129 = .ok (.iload 4, 2) := od_21 (n := 4) (by decide +kernel)
theorem dX9_keepLanding_131 : decode cX9_keepLanding 131 = .ok (.iadd, 1) := od_96  (by decide +kernel)
theorem dX9_keepLanding_132 : decode cX9_keepLanding 132 = .ok (.aload_n 2, 1) := od_44  (by decide +kernel)
theorem dX9_keepLanding_133 : decode cX9_keepLanding 133 = .ok (.getfield 233, 3) := od_180 (a := 0) (b := 233) (by decide +kernel) (by decide)
theorem dX9_keepLanding_136 : decode cX9_keepLanding 136 = .ok (.iload 4, 2) := od_21 (n := 4) (by decide +kernel)
theorem dX9_keepLanding_138 : decode cX9_keepLanding 138 = .ok (.iaload, 1) := od_46  (by decide +kernel)
theorem dX9_keepLanding_139 : decode cX9_keepLanding 139 = .ok (.i2l, 1) := od_133  (by decide +kernel)
theorem dX9_keepLanding_140 : decode cX9_keepLanding 140 = .ok (.invokevirtual 223, 3) := od_182 (a := 0) (b := 223) (by decide +kernel) (by decide)
theorem dX9_keepLanding_143 : decode cX9_keepLanding 143 = .ok (.iinc 4 1, 3) := od_132 (a := 4) (b := 1) (by decide +kernel) (by decide +kernel)
theorem dX9_keepLanding_146 : decode cX9_keepLanding 146 = .ok (.goto (-33), 3) := od_167 (a := 255) (b := 223) (by decide +kernel) (by decide +kernel)
theorem dX9_keepLanding_149 : decode cX9_keepLanding 149 = .ok (.aload_n 0, 1) := od_42  (by decide +kernel)
theorem dX9_keepLanding_150 : decode cX9_keepLanding 150 = .ok (.getfield 9, 3) := od_180 (a := 0) (b := 9) (by decide +kernel) (by decide)
theorem dX9_keepLanding_153 : decode cX9_keepLanding 153 = .ok (.getfield 214, 3) := od_180 (a := 0) (b := 214) (by decide +kernel) (by decide)
theorem dX9_keepLanding_156 : decode cX9_keepLanding 156 = .ok (.iload_n 3, 1) := od_29  (by decide +kernel)
theorem dX9_keepLanding_157 : decode cX9_keepLanding 157 = .ok (.bipush 11, 2) := od_16 (a := 11) (by decide +kernel) (by decide +kernel)
theorem dX9_keepLanding_159 : decode cX9_keepLanding 159 = .ok (.ldc2_w 236, 3) := od_20 (a := 0) (b := 236) (by decide +kernel) (by decide)
theorem dX9_keepLanding_162 : decode cX9_keepLanding 162 = .ok (.invokevirtual 223, 3) := od_182 (a := 0) (b := 223) (by decide +kernel) (by decide)
theorem dX9_keepLanding_165 : decode cX9_keepLanding 165 = .ok (.aload_n 0, 1) := od_42  (by decide +kernel)
theorem dX9_keepLanding_166 : decode cX9_keepLanding 166 = .ok (.getfield 9, 3) := od_180 (a := 0) (b := 9) (by decide +kernel) (by decide)
theorem dX9_keepLanding_169 : decode cX9_keepLanding 169 = .ok (.getfield 214, 3) := od_180 (a := 0) (b := 214) (by decide +kernel) (by decide)
theorem dX9_keepLanding_172 : decode cX9_keepLanding 172 = .ok (.iload_n 3, 1) := od_29  (by decide +kernel)
theorem dX9_keepLanding_173 : decode cX9_keepLanding 173 = .ok (.bipush 12, 2) := od_16 (a := 12) (by decide +kernel) (by decide +kernel)
theorem dX9_keepLanding_175 : decode cX9_keepLanding 175 = .ok (.ldc2_w 236, 3) := od_20 (a := 0) (b := 236) (by decide +kernel) (by decide)
theorem dX9_keepLanding_178 : decode cX9_keepLanding 178 = .ok (.invokevirtual 223, 3) := od_182 (a := 0) (b := 223) (by decide +kernel) (by decide)
theorem dX9_keepLanding_181 : decode cX9_keepLanding 181 = .ok (.return_, 1) := od_177  (by decide +kernel)
end
section
set_option maxHeartbeats 4000000 in
set_option maxRecDepth 100000 in
theorem t_X9_takesTurn (l : Launch) (dC : Nat → ClassId) (dI : Nat → Nat → Nat) (sz : Nat) (Ω : Nat → Nat → (Nat → Nat) → va_E → Prop) (κ : Nat → ClassId) (τ ν : Nat → Nat) (ρ : Nat → Nat → Nat) (L : List Nat) (f : Nat → va_E) (hG : tp_G τ ν ρ L) (hT : tp_T Ω κ τ ν ρ f) (h0 : Nat) (ht_h0 : τ h0 = 10) : Met l yX9_takesTurn wqX9_takesTurn ({ frames := 2, cells := 0, slots := 0, locals := 400 }) (va_Pc [.ref h0] (pz_B dC dI (tp_K κ) (va_pl L f) sz)) (va_Qi (fun (r : Int32) (f1 : Nat → va_E) => tp_T Ω κ τ ν ρ f1 ∧ tp_F τ [10] f f1 ∧ (0 ≤ r.toInt ∧ r.toInt ≤ 1) ∧ True) (fun (f1 : Nat → va_E) (t : State) => pz_E dC dI (tp_K κ) (va_A (va_pl L f) sz) (va_pl L f1) t) (va_A (va_pl L f) sz)) 0 0 (va_A (va_pl L f) sz) := by
  refine Met.ofW (cc := cX9_takesTurn) (maxL := 2) (ret := some .boolean) (by decide) rfl ?_
  intro p e s m args below meth c s₁ B hml hv
  obtain ⟨rfl, hsz, hP, hK, hD0, hN⟩ := hv
  have hx := B.exec
  have hb := B.bytes
  have hr := B.returns
  have hts := fun (w : Cond) (h : w ∈ WALL) => atoms_spec (ws := wqX9_takesTurn) B.pre w (List.mem_cons_of_mem _ h)
  have hown : s.vm.findClass RX9 = some m.cls := findClass_of_methodNamed B.named
  have hlocks := B.notSynchronized
  subst hsz
  have hD := hD0.self (sz := s.heap.size)
  generalize hAe : va_A (va_pl L f) s.heap.size = A at hD ⊢
  have hA : ∀ q : Nat, s.heap.size ≤ q → A q := fun q h => by rw [← hAe]; exact Or.inr h
  have hS : va_S A s.heap s.heap [] := va_S.rf
  have hR : tp_F τ [10] f f := tp_F.rf
  have hl := lv_entry ([.ref h0]) (n := 2) (Nat.le_of_ble_eq_true rfl)
  rw [lg_entry_eq]
  generalize (lg_sl ([.ref h0]) ++ List.replicate (2 - (lg_sl ([.ref h0])).length) Slot.unset).toArray = ls at hl ⊢
  have hl : lv_has ls 2 [(0, .ref h0)] := hl
  refine lv_aload_n hx hb dX9_takesTurn_0 rfl (lv_at hl 0 rfl) ?_
  have ⟨y1, y1l⟩ := tpg_10 hG ht_h0
  refine tpk_10 hT ht_h0 (fun o2_x1 o2_x2 o2_x3 hf_o2 ro2_0 ro2_1 => ?_)
  refine tpk_pos (tp_in hG ht_h0 (by decide)) hf_o2 (fun q3 eq3 => ?_)
  have ro2_0 := tp_hu ro2_0
  refine va_get (D := (dC, dI)) (ci := 9) (v := .int o2_x1) (C := RX9) (T := TX9) (N := 4) hx hb hts hfX9 hown hK hP q3 eq3 rfl 1 (by decide) (hts (.fieldLink RX9 25 "ColdShips$Watch" "hour" "I") wa_404) (fun _ h9 => h9) rfl dX9_takesTurn_1 ?_
  refine lv_bipush (v := 24) hx hb dX9_takesTurn_4 (by decide) ?_
  refine lv_irem hx hb dX9_takesTurn_6 (by decide) ?_
  refine lv_topi (fun z4 ez4 => ?_)
  have iz4 : z4.toInt = o2_x1.toInt % 24 := zi_rem ez4 rfl (show (24 : Int32).toInt = 24 from rfl) (by omega) (by omega)
  refine lv_istore_n (lv' := [(1, .int z4), (0, .ref h0)]) hx hb dX9_takesTurn_7 rfl hl (by decide) rfl (fun ls hl => ?_)
  refine lv_aload_n hx hb dX9_takesTurn_8 rfl (lv_at hl 1 rfl) ?_
  have ro2_1 := tp_hu ro2_1
  refine va_get (D := (dC, dI)) (ci := 9) (v := .int o2_x3) (C := RX9) (T := TX9) (N := 4) hx hb hts hfX9 hown hK hP q3 eq3 rfl 3 (by decide) (hts (.fieldLink RX9 35 "ColdShips$Watch" "turnTaken" "Z") wa_406) (fun _ h9 => h9) rfl dX9_takesTurn_9 ?_
  refine lv_if_ne (tgt := 33) hx hb dX9_takesTurn_12 (by decide) (fun c5 => ?_) (fun c5 => ?_)
  · have ic5 : o2_x3.toInt ≠ 0 := zi_ne rfl rfl c5
    refine lv_iconst (v := 0) hx hb dX9_takesTurn_33 (by decide) ?_
    exact W.zret (v := 0) hx hb hr rfl (fun t ht hW => ⟨⟨0, f, rfl, ⟨hT, hR, (by first | decide | omega), trivial⟩, by rw [ht]; exact hP, va_K.moved hW.alike hK, hD⟩, hS.F ht⟩) hS.2.2 dX9_takesTurn_34
  · have ic5 : o2_x3.toInt = 0 := zi_nef rfl rfl c5
    refine lv_iload_n hx hb dX9_takesTurn_15 rfl (lv_at hl 0 rfl) ?_
    refine lv_bipush (v := 6) hx hb dX9_takesTurn_16 (by decide) ?_
    refine lv_icmp_eq (tgt := 35) hx hb dX9_takesTurn_18 (by decide) (fun c6 => ?_) (fun c6 => ?_)
    · have ic6 : z4.toInt = 6 := zi_eq rfl rfl c6
      refine lv_aload_n hx hb dX9_takesTurn_35 rfl (lv_at hl 1 rfl) ?_
      refine lv_iconst (v := 1) hx hb dX9_takesTurn_36 (by decide) ?_
      refine va_put (D := (dC, dI)) (ci := 9) (v := .int 1) (ty := .boolean) (C := RX9) (T := TX9) (N := 4) hx hb hts hfX9 tyX9 tyX9_ok nmX9 hown hK hP hD hS q3 eq3 rfl 3 (by decide) (hts (.fieldLink RX9 35 "ColdShips$Watch" "turnTaken" "Z") wa_406) (fun _ h9 => h9) rfl (tyX9_ok 3 (by decide)) rfl rfl (Nat.le_of_ble_eq_true rfl) dX9_takesTurn_37 (tp_k (.inr (9, [.ref (ρ h0 0), .int o2_x1, .int o2_x2, .int 1])) hD (tp_in hG ht_h0 (by decide)) eq3 (fun f7 H locs hP hD hS g9 k8 => ?_))
      have hT := hT.up ht_h0 g9 k8 ⟨_, _, _, rfl, ro2_0, (by first | decide | omega | (have : (1 : Int32).toInt = 1 := rfl; omega))⟩
      have hR := hR.up ht_h0 (by decide) k8
      refine lv_iconst (v := 1) hx hb dX9_takesTurn_40 (by decide) ?_
      exact W.zret (v := 1) hx hb hr rfl (fun t ht hW => ⟨⟨1, f7, rfl, ⟨hT, hR, (by first | decide | omega), trivial⟩, by rw [ht]; exact hP, va_K.moved hW.alike hK, hD⟩, hS.F ht⟩) hS.2.2 dX9_takesTurn_41
    · have ic6 : z4.toInt ≠ 6 := zi_eqf rfl rfl c6
      refine lv_iload_n hx hb dX9_takesTurn_21 rfl (lv_at hl 0 rfl) ?_
      refine lv_bipush (v := 12) hx hb dX9_takesTurn_22 (by decide) ?_
      refine lv_icmp_eq (tgt := 35) hx hb dX9_takesTurn_24 (by decide) (fun c10 => ?_) (fun c10 => ?_)
      · have ic10 : z4.toInt = 12 := zi_eq rfl rfl c10
        refine lv_aload_n hx hb dX9_takesTurn_35 rfl (lv_at hl 1 rfl) ?_
        refine lv_iconst (v := 1) hx hb dX9_takesTurn_36 (by decide) ?_
        refine va_put (D := (dC, dI)) (ci := 9) (v := .int 1) (ty := .boolean) (C := RX9) (T := TX9) (N := 4) hx hb hts hfX9 tyX9 tyX9_ok nmX9 hown hK hP hD hS q3 eq3 rfl 3 (by decide) (hts (.fieldLink RX9 35 "ColdShips$Watch" "turnTaken" "Z") wa_406) (fun _ h9 => h9) rfl (tyX9_ok 3 (by decide)) rfl rfl (Nat.le_of_ble_eq_true rfl) dX9_takesTurn_37 (tp_k (.inr (9, [.ref (ρ h0 0), .int o2_x1, .int o2_x2, .int 1])) hD (tp_in hG ht_h0 (by decide)) eq3 (fun f11 H locs hP hD hS g13 k12 => ?_))
        have hT := hT.up ht_h0 g13 k12 ⟨_, _, _, rfl, ro2_0, (by first | decide | omega | (have : (1 : Int32).toInt = 1 := rfl; omega))⟩
        have hR := hR.up ht_h0 (by decide) k12
        refine lv_iconst (v := 1) hx hb dX9_takesTurn_40 (by decide) ?_
        exact W.zret (v := 1) hx hb hr rfl (fun t ht hW => ⟨⟨1, f11, rfl, ⟨hT, hR, (by first | decide | omega), trivial⟩, by rw [ht]; exact hP, va_K.moved hW.alike hK, hD⟩, hS.F ht⟩) hS.2.2 dX9_takesTurn_41
      · have ic10 : z4.toInt ≠ 12 := zi_eqf rfl rfl c10
        refine lv_iload_n hx hb dX9_takesTurn_27 rfl (lv_at hl 0 rfl) ?_
        refine lv_bipush (v := 18) hx hb dX9_takesTurn_28 (by decide) ?_
        refine lv_icmp_eq (tgt := 35) hx hb dX9_takesTurn_30 (by decide) (fun c14 => ?_) (fun c14 => ?_)
        · have ic14 : z4.toInt = 18 := zi_eq rfl rfl c14
          refine lv_aload_n hx hb dX9_takesTurn_35 rfl (lv_at hl 1 rfl) ?_
          refine lv_iconst (v := 1) hx hb dX9_takesTurn_36 (by decide) ?_
          refine va_put (D := (dC, dI)) (ci := 9) (v := .int 1) (ty := .boolean) (C := RX9) (T := TX9) (N := 4) hx hb hts hfX9 tyX9 tyX9_ok nmX9 hown hK hP hD hS q3 eq3 rfl 3 (by decide) (hts (.fieldLink RX9 35 "ColdShips$Watch" "turnTaken" "Z") wa_406) (fun _ h9 => h9) rfl (tyX9_ok 3 (by decide)) rfl rfl (Nat.le_of_ble_eq_true rfl) dX9_takesTurn_37 (tp_k (.inr (9, [.ref (ρ h0 0), .int o2_x1, .int o2_x2, .int 1])) hD (tp_in hG ht_h0 (by decide)) eq3 (fun f15 H locs hP hD hS g17 k16 => ?_))
          have hT := hT.up ht_h0 g17 k16 ⟨_, _, _, rfl, ro2_0, (by first | decide | omega | (have : (1 : Int32).toInt = 1 := rfl; omega))⟩
          have hR := hR.up ht_h0 (by decide) k16
          refine lv_iconst (v := 1) hx hb dX9_takesTurn_40 (by decide) ?_
          exact W.zret (v := 1) hx hb hr rfl (fun t ht hW => ⟨⟨1, f15, rfl, ⟨hT, hR, (by first | decide | omega), trivial⟩, by rw [ht]; exact hP, va_K.moved hW.alike hK, hD⟩, hS.F ht⟩) hS.2.2 dX9_takesTurn_41
        · have ic14 : z4.toInt ≠ 18 := zi_eqf rfl rfl c14
          refine lv_iconst (v := 0) hx hb dX9_takesTurn_33 (by decide) ?_
          exact W.zret (v := 0) hx hb hr rfl (fun t ht hW => ⟨⟨0, f, rfl, ⟨hT, hR, (by first | decide | omega), trivial⟩, by rw [ht]; exact hP, va_K.moved hW.alike hK, hD⟩, hS.F ht⟩) hS.2.2 dX9_takesTurn_34
set_option maxHeartbeats 4000000 in
set_option maxRecDepth 100000 in
theorem t_X9_tonsMayGo (l : Launch) (dC : Nat → ClassId) (dI : Nat → Nat → Nat) (sz : Nat) (Ω : Nat → Nat → (Nat → Nat) → va_E → Prop) (κ : Nat → ClassId) (τ ν : Nat → Nat) (ρ : Nat → Nat → Nat) (L : List Nat) (f : Nat → va_E) (hG : tp_G τ ν ρ L) (hT : tp_T Ω κ τ ν ρ f) (h0 : Nat) (a : Int32) (h1 : Nat) (ht_h0 : τ h0 = 10) (ht_h1 : τ h1 = 6) : Met l yX9_tonsMayGo wqX9_tonsMayGo ({ frames := 3, cells := 0, slots := 0, locals := 800 }) (va_Pc [.ref h0, .int a, .ref h1] (pz_B dC dI (tp_K κ) (va_pl L f) sz)) (vp_Si (fun r => (0 ≤ r.toInt ∧ r.toInt ≤ 1) ∧ True)) 0 0 (fun _ => False) := by
  refine Met.ofW (cc := cX9_tonsMayGo) (maxL := 6) (ret := some .boolean) (by decide) rfl ?_
  intro p e s m args below meth c s₁ B hml hv
  obtain ⟨rfl, hsz, hP, hK, hD0, hN⟩ := hv
  have hx := B.exec
  have hb := B.bytes
  have hr := B.returns
  have hts := fun (w : Cond) (h : w ∈ WALL) => atoms_spec (ws := wqX9_tonsMayGo) B.pre w (List.mem_cons_of_mem _ h)
  have hown : s.vm.findClass RX9 = some m.cls := findClass_of_methodNamed B.named
  have hlocks := B.notSynchronized
  subst hsz
  have hD := hD0
  have hS : va_S (fun _ => True) s.heap s.heap [] := va_S.rf
  have hl := lv_entry ([.ref h0, .int a, .ref h1]) (n := 6) (Nat.le_of_ble_eq_true rfl)
  rw [lg_entry_eq]
  generalize (lg_sl ([.ref h0, .int a, .ref h1]) ++ List.replicate (6 - (lg_sl ([.ref h0, .int a, .ref h1])).length) Slot.unset).toArray = ls at hl ⊢
  have hl : lv_has ls 6 [(0, .ref h0), (1, .int a), (2, .ref h1)] := hl
  refine lv_aload_n hx hb dX9_tonsMayGo_0 rfl (lv_at hl 2 rfl) ?_
  refine tgk_6 hG ht_h1 (fun y1 y2 y2n y3 y3n y4 y4n y5 y5n y6 y6n y7 y7n => ?_)
  refine tpk_6 hT ht_h1 (fun o8_x1 o8_x2 o8_x3 o8_x4 o8_x5 o8_x6 o8_x10 o8_x11 o8_x12 o8_x14 hf_o8 ro8_0 ro8_1 ro8_2 => ?_)
  refine tpk_pos (tp_in hG ht_h1 (by decide)) hf_o8 (fun q9 eq9 => ?_)
  have ro8_0 := tp_hu ro8_0
  refine va_getN (D := (dC, dI)) (ci := 5) (v := .int o8_x2) (C := RX5) (T := TX5) (N := 17) hx hb hts hfX5 hown hK hP q9 eq9 rfl 2 (by decide) (va_Nw.use rfl (hN.1 (.fieldLinkNest RX9 114 "ColdShips$Ship" "where" "I" "ColdShips") nzw_27)) (fun _ h9 => h9) rfl dX9_tonsMayGo_1 ?_
  refine lv_istore_n (lv' := [(3, .int o8_x2), (0, .ref h0), (1, .int a), (2, .ref h1)]) hx hb dX9_tonsMayGo_4 rfl hl (by decide) rfl (fun ls hl => ?_)
  refine lv_aload_n hx hb dX9_tonsMayGo_5 rfl (lv_at hl 3 rfl) ?_
  refine va_getN (D := (dC, dI)) (ci := 5) (v := .int o8_x3) (C := RX5) (T := TX5) (N := 17) hx hb hts hfX5 hown hK hP q9 eq9 rfl 3 (by decide) (va_Nw.use rfl (hN.1 (.fieldLinkNest RX9 50 "ColdShips$Ship" "left" "I" "ColdShips") nzw_29)) (fun _ h9 => h9) rfl dX9_tonsMayGo_6 ?_
  refine lv_if_gt (tgt := 23) hx hb dX9_tonsMayGo_9 (by decide) (fun c10 => ?_) (fun c10 => ?_)
  · have ic10 : o8_x3.toInt > 0 := zi_gt rfl rfl c10
    refine lv_iconst (v := 0) hx hb dX9_tonsMayGo_23 (by decide) ?_
    exact W.zret (v := 0) hx hb hr rfl (fun t ht hW => ⟨0, rfl, ⟨(by first | decide | omega), trivial⟩, ht⟩) (fun _ h => by cases h) dX9_tonsMayGo_24
  · have ic10 : o8_x3.toInt ≤ 0 := zi_gtf rfl rfl c10
    refine lv_aload_n hx hb dX9_tonsMayGo_12 rfl (lv_at hl 1 rfl) ?_
    have ⟨y11, y11l⟩ := tpg_10 hG ht_h0
    refine tpk_10 hT ht_h0 (fun o12_x1 o12_x2 o12_x3 hf_o12 ro12_0 ro12_1 => ?_)
    refine tpk_pos (tp_in hG ht_h0 (by decide)) hf_o12 (fun q13 eq13 => ?_)
    refine va_get (D := (dC, dI)) (ci := 9) (v := .ref (ρ h0 0)) (C := RX9) (T := TX9) (N := 4) hx hb hts hfX9 hown hK hP q13 eq13 rfl 0 (by decide) (hts (.fieldLink RX9 9 "ColdShips$Watch" "world" "LColdShips$World;") wa_114) (fun _ h9 => h9) rfl dX9_tonsMayGo_13 ?_
    refine lv_iload_n hx hb dX9_tonsMayGo_16 rfl (lv_at hl 0 rfl) ?_
    refine tgk_11 hG y11 (fun y14 y14n y15 y15n y16 y17 y18 y19 y19m y19l y20 y20m y20l y21 y21m y21l y22 y22w y22m y22l y23 y23w y23m y23l y24 y24w y24m y24l y25 y25w y25m y25l => ?_)
    refine tpk_11 hT y11 (fun o26_x0 o26_x1 o26_x2 o26_x3 o26_x4 o26_x5 o26_x6 hf_o26 ro26_0 ro26_1 ro26_2 ro26_3 => ?_)
    refine tpk_pos (tp_in hG y11 (by decide)) hf_o26 (fun q27 eq27 => ?_)
    have ro26_0 := tp_hu ro26_0; have ro26_1 := tp_hu ro26_1; have ro26_2 := tp_hu ro26_2; have ro26_3 := tp_hu ro26_3
    refine pz_calli (va_runV (As := [.int o8_x2]) (rest := []) ⟨hx, hb, hml, hown, hts⟩ (t_X10_hasTerminal l dC dI _ Ω κ τ ν ρ L f hG hT (ρ h0 0) o8_x2 y11 o26_x0 o26_x1 o26_x2 o26_x3 o26_x4 o26_x5 o26_x6 hf_o26) (cwV 1 hts gX9_tonsMayGo_X10_hasTerminal rfl rfl rfl ⟨rfl, pd_X10_hasTerminal⟩ ⟨Nat.le_of_ble_eq_true rfl, Nat.le_of_ble_eq_true rfl⟩) ⟨pz_blind, va_recv hK hP (ci := 10) (q0 := q27) rfl eq27, pz_pre hP hK hD hN⟩ rfl rfl hl.1 rfl (lv_room (Nat.le_of_ble_eq_true rfl)) dX9_tonsMayGo_17 ⟨Nat.le_of_ble_eq_true rfl, Nat.le_of_ble_eq_true rfl⟩) (fun r28 hw29 => ?_)
    obtain ⟨hw29r, hw29p⟩ := hw29
    refine lv_if_ne (tgt := 25) hx hb dX9_tonsMayGo_20 (by decide) (fun c30 => ?_) (fun c30 => ?_)
    · have ic30 : r28.toInt ≠ 0 := zi_ne rfl rfl c30
      have p31 : 0 ≤ o8_x2.toInt ∧ o8_x2.toInt < o26_x4.toInt := (tp_cond.yes hw29p) (by omega)
      clear hw29r ic30
      refine lv_iload_n hx hb dX9_tonsMayGo_25 rfl (lv_at hl 0 rfl) ?_
      refine lv_iload_n hx hb dX9_tonsMayGo_26 rfl (lv_at hl 2 rfl) ?_
      refine pz_calli (va_runSN (As := [.int o8_x2, .int a]) (rest := []) ⟨hx, hb, hml, hown, hts⟩ (t_X11_slotOwner l dC dI _ o8_x2 a) ⟨(va_cnB (host := "ColdShips") 2 hts ggX9_tonsMayGo_X11_slotOwner rfl rfl rfl (hN.1 (.methodLinkNest RX9 143 yX11_slotOwner "ColdShips") nzw_110) (hts (.initialized RX11) wa_2) pd_X11_slotOwner ⟨Nat.le_of_ble_eq_true rfl, Nat.le_of_ble_eq_true rfl⟩), (hts (.static yX11_slotOwner) wa_332), trivial⟩ ⟨pz_blind, pz_pre pz_P0 (hK.sub (tys' := []) [] rfl) (pz_D0 (A := fun _ => True)) hN⟩ rfl rfl hl.1 rfl (lv_room (Nat.le_of_ble_eq_true rfl)) dX9_tonsMayGo_27 ⟨Nat.le_of_ble_eq_true rfl, Nat.le_of_ble_eq_true rfl⟩) (fun r32 hw33 => ?_)
      obtain ⟨hw33r, hw33p⟩ := hw33
      refine lv_istore (lv' := [(4, .int r32), (3, .int o8_x2), (0, .ref h0), (1, .int a), (2, .ref h1)]) hx hb dX9_tonsMayGo_30 hl (by decide) rfl (fun ls hl => ?_)
      refine lv_aload_n hx hb dX9_tonsMayGo_32 rfl (lv_at hl 2 rfl) ?_
      refine va_get (D := (dC, dI)) (ci := 9) (v := .ref (ρ h0 0)) (C := RX9) (T := TX9) (N := 4) hx hb hts hfX9 hown hK hP q13 eq13 rfl 0 (by decide) (hts (.fieldLink RX9 9 "ColdShips$Watch" "world" "LColdShips$World;") wa_114) (fun _ h9 => h9) rfl dX9_tonsMayGo_33 ?_
      refine va_getN (D := (dC, dI)) (ci := 10) (v := .ref (ρ (ρ h0 0) 9)) (C := RX10) (T := TX10) (N := 19) hx hb hts hfX10 hown hK hP q27 eq27 rfl 9 (by decide) (va_Nw.use rfl (hN.1 (.fieldLinkNest RX9 121 "ColdShips$World" "terminals" "[LColdShips$Terminal;" "ColdShips") nzw_66)) (fun _ h9 => h9) rfl dX9_tonsMayGo_36 ?_
      refine lv_iload_n hx hb dX9_tonsMayGo_39 rfl (lv_at hl 1 rfl) ?_
      refine tpk_24 hT y16 (fun g35 hf_o34 hf_o34e => ?_)
      refine tpk_pos (tp_in hG y16 (by decide)) hf_o34 (fun q36 eq36 => ?_)
      refine va_aldq hx hb hK hP q36 4 eq36 rfl (vp_in_iff.mpr ⟨by omega, by omega⟩) dX9_tonsMayGo_40 ?_
      obtain ⟨b37, hb38⟩ : ∃ b : Nat, b = ρ (ρ (ρ h0 0) 9) o8_x2.toNatClampNeg := ⟨_, rfl⟩
      have hb38t : τ b37 = 9 := by rw [hb38]; exact tpg_24 hG y16 _ (zi_cl (vp_in_iff.mpr ⟨by omega, by omega⟩))
      have hb38g : g35 o8_x2.toNatClampNeg = some b37 := by rw [hb38]; exact hf_o34e _ (zi_cl (vp_in_iff.mpr ⟨by omega, by omega⟩))
      refine W.eq (g2 := F0 m 41 ls (.ref b37 :: [])) (congrArg (fun o => F0 m 41 ls (va_rf o :: [])) hb38g) ?_
      refine tgk_9 hG hb38t (fun y39 y39n y40 y40n => ?_)
      refine tpk_9 hT hb38t (fun o41_x0 o41_x1 o41_x2 o41_x3 o41_x4 hf_o41 ro41_0 => ?_)
      refine tpk_pos (tp_in hG hb38t (by decide)) hf_o41 (fun q42 eq42 => ?_)
      refine va_getN (D := (dC, dI)) (ci := 8) (v := .int o41_x3) (C := RX8) (T := TX8) (N := 7) hx hb hts hfX8 hown hK hP q42 eq42 rfl 3 (by decide) (va_Nw.use rfl (hN.1 (.fieldLinkNest RX9 146 "ColdShips$Terminal" "depth" "I" "ColdShips") nzw_9)) (fun _ h9 => h9) rfl dX9_tonsMayGo_41 ?_
      refine lv_aload_n hx hb dX9_tonsMayGo_44 rfl (lv_at hl 2 rfl) ?_
      refine va_get (D := (dC, dI)) (ci := 9) (v := .ref (ρ h0 0)) (C := RX9) (T := TX9) (N := 4) hx hb hts hfX9 hown hK hP q13 eq13 rfl 0 (by decide) (hts (.fieldLink RX9 9 "ColdShips$Watch" "world" "LColdShips$World;") wa_114) (fun _ h9 => h9) rfl dX9_tonsMayGo_45 ?_
      refine va_getN (D := (dC, dI)) (ci := 10) (v := .ref (ρ (ρ h0 0) 7)) (C := RX10) (T := TX10) (N := 19) hx hb hts hfX10 hown hK hP q27 eq27 rfl 7 (by decide) (va_Nw.use rfl (hN.1 (.fieldLinkNest RX9 149 "ColdShips$World" "tides" "[I" "ColdShips") nzw_62)) (fun _ h9 => h9) rfl dX9_tonsMayGo_48 ?_
      refine lv_aload_n hx hb dX9_tonsMayGo_51 rfl (lv_at hl 2 rfl) ?_
      have ro12_0 := tp_hu ro12_0
      refine va_get (D := (dC, dI)) (ci := 9) (v := .int o12_x1) (C := RX9) (T := TX9) (N := 4) hx hb hts hfX9 hown hK hP q13 eq13 rfl 1 (by decide) (hts (.fieldLink RX9 25 "ColdShips$Watch" "hour" "I") wa_404) (fun _ h9 => h9) rfl dX9_tonsMayGo_52 ?_
      refine lv_bipush (v := 25) hx hb dX9_tonsMayGo_55 (by decide) ?_
      refine lv_irem hx hb dX9_tonsMayGo_57 (by decide) ?_
      refine lv_topi (fun z43 ez43 => ?_)
      have iz43 : z43.toInt = o12_x1.toInt % 25 := zi_rem ez43 rfl (show (25 : Int32).toInt = 25 from rfl) (by omega) (by omega)
      refine tpk_20 hT y14 y14n (fun g45 hf_o44 => ?_)
      refine tpk_pos (tp_in hG y14 (by decide)) hf_o44 (fun q46 eq46 => ?_)
      refine va_iald hx hb hK hP q46 0 eq46 rfl (vp_in_iff.mpr ⟨by omega, by omega⟩) dX9_tonsMayGo_58 ?_
      refine lv_topi (fun z47 ez47 => ?_)
      refine lv_iadd hx hb dX9_tonsMayGo_59 ?_
      refine lv_topi (fun z48 ez48 => ?_)
      refine lv_istore (lv' := [(5, .int z48), (4, .int r32), (3, .int o8_x2), (0, .ref h0), (1, .int a), (2, .ref h1)]) hx hb dX9_tonsMayGo_60 hl (by decide) rfl (fun ls hl => ?_)
      refine lv_iload hx hb dX9_tonsMayGo_62 (lv_at hl 0 rfl) ?_
      refine lv_aload_n hx hb dX9_tonsMayGo_64 rfl (lv_at hl 5 rfl) ?_
      refine va_getN (D := (dC, dI)) (ci := 5) (v := .ref (ρ h1 0)) (C := RX5) (T := TX5) (N := 17) hx hb hts hfX5 hown hK hP q9 eq9 rfl 0 (by decide) (va_Nw.use rfl (hN.1 (.fieldLinkNest RX9 55 "ColdShips$Ship" "tank" "LColdShips$Tank;" "ColdShips") nzw_21)) (fun _ h9 => h9) rfl dX9_tonsMayGo_65 ?_
      refine tgk_8 hG y1 (fun y49 y49n y50 y50n y51 y51n => ?_)
      refine tpk_8 hT y1 (fun o52_x0 o52_x1 o52_x2 o52_x3 hf_o52 ro52_0 => ?_)
      refine tpk_pos (tp_in hG y1 (by decide)) hf_o52 (fun q53 eq53 => ?_)
      refine pz_calli (va_runV (As := []) (rest := [.int z48]) ⟨hx, hb, hml, hown, hts⟩ (t_X7_draft l dC dI _ Ω κ τ ν ρ L f hG hT (ρ h1 0) y1) (cwV 0 hts gX9_tonsMayGo_X7_draft rfl rfl rfl ⟨rfl, pd_X7_draft⟩ ⟨Nat.le_of_ble_eq_true rfl, Nat.le_of_ble_eq_true rfl⟩) ⟨pz_blind, va_recv hK hP (ci := 7) (q0 := q53) rfl eq53, pz_pre hP hK hD hN⟩ rfl rfl hl.1 rfl (lv_room (Nat.le_of_ble_eq_true rfl)) dX9_tonsMayGo_68 ⟨Nat.le_of_ble_eq_true rfl, Nat.le_of_ble_eq_true rfl⟩) (fun r54 hw55 => ?_)
      obtain ⟨hw55r, hw55p⟩ := hw55
      refine lv_icmp_lt (tgt := 126) hx hb dX9_tonsMayGo_71 (by decide) (fun c56 => ?_) (fun c56 => ?_)
      · have ic56 : z48.toInt < r54.toInt := zi_lt rfl rfl c56
        refine lv_iconst (v := 0) hx hb dX9_tonsMayGo_126 (by decide) ?_
        exact W.zret (v := 0) hx hb hr rfl (fun t ht hW => ⟨0, rfl, ⟨(by first | decide | omega), trivial⟩, ht⟩) (fun _ h => by cases h) dX9_tonsMayGo_127
      · have ic56 : z48.toInt ≥ r54.toInt := zi_ltf rfl rfl c56
        refine lv_aload_n hx hb dX9_tonsMayGo_74 rfl (lv_at hl 3 rfl) ?_
        refine va_get (D := (dC, dI)) (ci := 9) (v := .ref (ρ h0 0)) (C := RX9) (T := TX9) (N := 4) hx hb hts hfX9 hown hK hP q13 eq13 rfl 0 (by decide) (hts (.fieldLink RX9 9 "ColdShips$Watch" "world" "LColdShips$World;") wa_114) (fun _ h9 => h9) rfl dX9_tonsMayGo_75 ?_
        refine va_getN (D := (dC, dI)) (ci := 10) (v := .ref (ρ (ρ h0 0) 12)) (C := RX10) (T := TX10) (N := 19) hx hb hts hfX10 hown hK hP q27 eq27 rfl 12 (by decide) (va_Nw.use rfl (hN.1 (.fieldLinkNest RX9 156 "ColdShips$World" "slots" "LColdShips$Spans;" "ColdShips") nzw_73)) (fun _ h9 => h9) rfl dX9_tonsMayGo_78 ?_
        refine lv_iload hx hb dX9_tonsMayGo_81 (lv_at hl 1 rfl) ?_
        refine lv_iload hx hb dX9_tonsMayGo_83 (lv_at hl 1 rfl) ?_
        refine lv_aload_n hx hb dX9_tonsMayGo_85 rfl (lv_at hl 3 rfl) ?_
        refine va_get (D := (dC, dI)) (ci := 9) (v := .int o12_x1) (C := RX9) (T := TX9) (N := 4) hx hb hts hfX9 hown hK hP q13 eq13 rfl 1 (by decide) (hts (.fieldLink RX9 25 "ColdShips$Watch" "hour" "I") wa_404) (fun _ h9 => h9) rfl dX9_tonsMayGo_86 ?_
        refine lv_aload_n hx hb dX9_tonsMayGo_89 rfl (lv_at hl 3 rfl) ?_
        refine va_get (D := (dC, dI)) (ci := 9) (v := .int o12_x1) (C := RX9) (T := TX9) (N := 4) hx hb hts hfX9 hown hK hP q13 eq13 rfl 1 (by decide) (hts (.fieldLink RX9 25 "ColdShips$Watch" "hour" "I") wa_404) (fun _ h9 => h9) rfl dX9_tonsMayGo_90 ?_
        refine tgk_7 hG y19 (fun y57 y57n y58 y58n y59 y59n y60a y60b => ?_)
        refine tpk_7 hT y19 (fun o61_x3 hf_o61 ro61_0 => ?_)
        refine tpk_pos (tp_in hG y19 (by decide)) hf_o61 (fun q62 eq62 => ?_)
        have ro61_0 := tp_hu ro61_0
        refine pz_calli (va_runV (As := [.int r32, .int r32, .int o12_x1, .int o12_x1]) (rest := []) ⟨hx, hb, hml, hown, hts⟩ (t_X6_meets l dC dI _ Ω κ τ ν ρ L f hG hT (ρ (ρ h0 0) 12) r32 r32 o12_x1 o12_x1 y19 o61_x3 hf_o61) (cwV 4 hts gX9_tonsMayGo_X6_meets rfl rfl rfl ⟨rfl, pd_X6_meets⟩ ⟨Nat.le_of_ble_eq_true rfl, Nat.le_of_ble_eq_true rfl⟩) ⟨pz_blind, va_recv hK hP (ci := 6) (q0 := q62) rfl eq62, pz_pre hP hK hD hN⟩ rfl rfl hl.1 rfl (lv_room (Nat.le_of_ble_eq_true rfl)) dX9_tonsMayGo_93 ⟨Nat.le_of_ble_eq_true rfl, Nat.le_of_ble_eq_true rfl⟩) (fun r63 hw64 => ?_)
        obtain ⟨hw64r, hw64p⟩ := hw64
        refine lv_if_eq (tgt := 126) hx hb dX9_tonsMayGo_96 (by decide) (fun c65 => ?_) (fun c65 => ?_)
        · have ic65 : r63.toInt = 0 := zi_eq rfl rfl c65
          refine lv_iconst (v := 0) hx hb dX9_tonsMayGo_126 (by decide) ?_
          exact W.zret (v := 0) hx hb hr rfl (fun t ht hW => ⟨0, rfl, ⟨(by first | decide | omega), trivial⟩, ht⟩) (fun _ h => by cases h) dX9_tonsMayGo_127
        · have ic65 : r63.toInt ≠ 0 := zi_eqf rfl rfl c65
          refine lv_aload_n hx hb dX9_tonsMayGo_99 rfl (lv_at hl 3 rfl) ?_
          refine va_get (D := (dC, dI)) (ci := 9) (v := .ref (ρ h0 0)) (C := RX9) (T := TX9) (N := 4) hx hb hts hfX9 hown hK hP q13 eq13 rfl 0 (by decide) (hts (.fieldLink RX9 9 "ColdShips$Watch" "world" "LColdShips$World;") wa_114) (fun _ h9 => h9) rfl dX9_tonsMayGo_100 ?_
          refine va_getN (D := (dC, dI)) (ci := 10) (v := .ref (ρ (ρ h0 0) 13)) (C := RX10) (T := TX10) (N := 19) hx hb hts hfX10 hown hK hP q27 eq27 rfl 13 (by decide) (va_Nw.use rfl (hN.1 (.fieldLinkNest RX9 166 "ColdShips$World" "breaks" "LColdShips$Spans;" "ColdShips") nzw_75)) (fun _ h9 => h9) rfl dX9_tonsMayGo_103 ?_
          refine lv_iload_n hx hb dX9_tonsMayGo_106 rfl (lv_at hl 2 rfl) ?_
          refine lv_iload_n hx hb dX9_tonsMayGo_107 rfl (lv_at hl 2 rfl) ?_
          refine lv_aload_n hx hb dX9_tonsMayGo_108 rfl (lv_at hl 3 rfl) ?_
          refine va_get (D := (dC, dI)) (ci := 9) (v := .int o12_x1) (C := RX9) (T := TX9) (N := 4) hx hb hts hfX9 hown hK hP q13 eq13 rfl 1 (by decide) (hts (.fieldLink RX9 25 "ColdShips$Watch" "hour" "I") wa_404) (fun _ h9 => h9) rfl dX9_tonsMayGo_109 ?_
          refine lv_aload_n hx hb dX9_tonsMayGo_112 rfl (lv_at hl 3 rfl) ?_
          refine va_get (D := (dC, dI)) (ci := 9) (v := .int o12_x1) (C := RX9) (T := TX9) (N := 4) hx hb hts hfX9 hown hK hP q13 eq13 rfl 1 (by decide) (hts (.fieldLink RX9 25 "ColdShips$Watch" "hour" "I") wa_404) (fun _ h9 => h9) rfl dX9_tonsMayGo_113 ?_
          refine tgk_7 hG y20 (fun y66 y66n y67 y67n y68 y68n y69a y69b => ?_)
          refine tpk_7 hT y20 (fun o70_x3 hf_o70 ro70_0 => ?_)
          refine tpk_pos (tp_in hG y20 (by decide)) hf_o70 (fun q71 eq71 => ?_)
          have ro70_0 := tp_hu ro70_0
          refine pz_calli (va_runV (As := [.int o8_x2, .int o8_x2, .int o12_x1, .int o12_x1]) (rest := []) ⟨hx, hb, hml, hown, hts⟩ (t_X6_meets l dC dI _ Ω κ τ ν ρ L f hG hT (ρ (ρ h0 0) 13) o8_x2 o8_x2 o12_x1 o12_x1 y20 o70_x3 hf_o70) (cwV 4 hts gX9_tonsMayGo_X6_meets rfl rfl rfl ⟨rfl, pd_X6_meets⟩ ⟨Nat.le_of_ble_eq_true rfl, Nat.le_of_ble_eq_true rfl⟩) ⟨pz_blind, va_recv hK hP (ci := 6) (q0 := q71) rfl eq71, pz_pre hP hK hD hN⟩ rfl rfl hl.1 rfl (lv_room (Nat.le_of_ble_eq_true rfl)) dX9_tonsMayGo_116 ⟨Nat.le_of_ble_eq_true rfl, Nat.le_of_ble_eq_true rfl⟩) (fun r72 hw73 => ?_)
          obtain ⟨hw73r, hw73p⟩ := hw73
          refine lv_if_ne (tgt := 126) hx hb dX9_tonsMayGo_119 (by decide) (fun c74 => ?_) (fun c74 => ?_)
          · have ic74 : r72.toInt ≠ 0 := zi_ne rfl rfl c74
            refine lv_iconst (v := 0) hx hb dX9_tonsMayGo_126 (by decide) ?_
            exact W.zret (v := 0) hx hb hr rfl (fun t ht hW => ⟨0, rfl, ⟨(by first | decide | omega), trivial⟩, ht⟩) (fun _ h => by cases h) dX9_tonsMayGo_127
          · have ic74 : r72.toInt = 0 := zi_nef rfl rfl c74
            refine lv_iconst (v := 1) hx hb dX9_tonsMayGo_122 (by decide) ?_
            refine lv_goto (tgt := 127) hx hb dX9_tonsMayGo_123 (by decide) ?_
            exact W.zret (v := 1) hx hb hr rfl (fun t ht hW => ⟨1, rfl, ⟨(by first | decide | omega), trivial⟩, ht⟩) (fun _ h => by cases h) dX9_tonsMayGo_127
    · have ic30 : r28.toInt = 0 := zi_nef rfl rfl c30
      clear hw29r ic30
      refine lv_iconst (v := 0) hx hb dX9_tonsMayGo_23 (by decide) ?_
      exact W.zret (v := 0) hx hb hr rfl (fun t ht hW => ⟨0, rfl, ⟨(by first | decide | omega), trivial⟩, ht⟩) (fun _ h => by cases h) dX9_tonsMayGo_24
set_option maxHeartbeats 4000000 in
set_option maxRecDepth 100000 in
theorem t_X9_sail (l : Launch) (dC : Nat → ClassId) (dI : Nat → Nat → Nat) (sz : Nat) (Ω : Nat → Nat → (Nat → Nat) → va_E → Prop) (κ : Nat → ClassId) (τ ν : Nat → Nat) (ρ : Nat → Nat → Nat) (L : List Nat) (f : Nat → va_E) (hG : tp_G τ ν ρ L) (hT : tp_T Ω κ τ ν ρ f) (h0 : Nat) (h1 : Nat) (ht_h0 : τ h0 = 10) (ht_h1 : τ h1 = 6) : Met l yX9_sail wqX9_sail ({ frames := 4, cells := 0, slots := 0, locals := 1200 }) (va_Pc [.ref h0, .ref h1] (pz_B dC dI (tp_K κ) (va_pl L f) sz)) (va_Qv (fun (f1 : Nat → va_E) => tp_T Ω κ τ ν ρ f1 ∧ tp_F τ [6, 10, 20] f f1 ∧ True) (fun (f1 : Nat → va_E) (t : State) => pz_E dC dI (tp_K κ) (va_A (va_pl L f) sz) (va_pl L f1) t) (va_A (va_pl L f) sz)) 0 0 (va_A (va_pl L f) sz) := by
  refine Met.ofW (cc := cX9_sail) (maxL := 4) (ret := none) (by decide) rfl ?_
  intro p e s m args below meth c s₁ B hml hv
  obtain ⟨rfl, hsz, hP, hK, hD0, hN⟩ := hv
  have hx := B.exec
  have hb := B.bytes
  have hr := B.returns
  have hts := fun (w : Cond) (h : w ∈ WALL) => atoms_spec (ws := wqX9_sail) B.pre w (List.mem_cons_of_mem _ h)
  have hown : s.vm.findClass RX9 = some m.cls := findClass_of_methodNamed B.named
  have hlocks := B.notSynchronized
  subst hsz
  have hD := hD0.self (sz := s.heap.size)
  generalize hAe : va_A (va_pl L f) s.heap.size = A at hD ⊢
  have hA : ∀ q : Nat, s.heap.size ≤ q → A q := fun q h => by rw [← hAe]; exact Or.inr h
  have hS : va_S A s.heap s.heap [] := va_S.rf
  have hR : tp_F τ [6, 10, 20] f f := tp_F.rf
  have hl := lv_entry ([.ref h0, .ref h1]) (n := 4) (Nat.le_of_ble_eq_true rfl)
  rw [lg_entry_eq]
  generalize (lg_sl ([.ref h0, .ref h1]) ++ List.replicate (4 - (lg_sl ([.ref h0, .ref h1])).length) Slot.unset).toArray = ls at hl ⊢
  have hl : lv_has ls 4 [(0, .ref h0), (1, .ref h1)] := hl
  refine lv_aload_n hx hb dX9_sail_0 rfl (lv_at hl 1 rfl) ?_
  refine tgk_6 hG ht_h1 (fun y1 y2 y2n y3 y3n y4 y4n y5 y5n y6 y6n y7 y7n => ?_)
  refine tpk_6 hT ht_h1 (fun o8_x1 o8_x2 o8_x3 o8_x4 o8_x5 o8_x6 o8_x10 o8_x11 o8_x12 o8_x14 hf_o8 ro8_0 ro8_1 ro8_2 => ?_)
  refine tpk_pos (tp_in hG ht_h1 (by decide)) hf_o8 (fun q9 eq9 => ?_)
  refine va_getN (D := (dC, dI)) (ci := 5) (v := .ref (ρ h1 8)) (C := RX5) (T := TX5) (N := 17) hx hb hts hfX5 hown hK hP q9 eq9 rfl 8 (by decide) (va_Nw.use rfl (hN.1 (.fieldLinkNest RX9 97 "ColdShips$Ship" "orderWhats" "[I" "ColdShips") nzw_37)) (fun _ h9 => h9) rfl dX9_sail_1 ?_
  refine lv_iconst (v := 0) hx hb dX9_sail_4 (by decide) ?_
  refine tpk_20 hT y3 y3n (fun g11 hf_o10 => ?_)
  refine tpk_pos (tp_in hG y3 (by decide)) hf_o10 (fun q12 eq12 => ?_)
  refine va_iald hx hb hK hP q12 0 eq12 rfl (vp_in_iff.mpr ⟨by decide, by decide⟩) dX9_sail_5 ?_
  refine lv_topi (fun z13 ez13 => ?_)
  refine lv_istore_n (lv' := [(2, .int z13), (0, .ref h0), (1, .ref h1)]) hx hb dX9_sail_6 rfl hl (by decide) rfl (fun ls hl => ?_)
  refine lv_aload_n hx hb dX9_sail_7 rfl (lv_at hl 2 rfl) ?_
  refine va_getN (D := (dC, dI)) (ci := 5) (v := .int o8_x3) (C := RX5) (T := TX5) (N := 17) hx hb hts hfX5 hown hK hP q9 eq9 rfl 3 (by decide) (va_Nw.use rfl (hN.1 (.fieldLinkNest RX9 50 "ColdShips$Ship" "left" "I" "ColdShips") nzw_29)) (fun _ h9 => h9) rfl dX9_sail_8 ?_
  refine tp_join 71 (fun H locs ls stk => ∃ f15 : Nat → va_E, stk = [] ∧ tp_T Ω κ τ ν ρ f15 ∧ tp_F τ [6, 10, 20] f f15 ∧ va_P (dC, dI) vwCl (va_pl L f15) H ∧ va_D A (va_pl L f15) ∧ va_S A s.heap H locs ∧ lv_has ls 4 [(2, .int z13), (0, .ref h0), (1, .ref h1)]) ?_ (fun hj14 => ?_)
  · intro H locs ls stk hI
    refine Exists.elim hI (fun f15 hE90 => tn_7 hE90 (fun e90 hT hR hP hD hS hl => ?_))
    clear hE90 hI; subst e90
    refine lv_aload_n hx hb dX9_sail_71 rfl (lv_at hl 2 rfl) ?_
    refine tpk_6 hT ht_h1 (fun o16_x1 o16_x2 o16_x3 o16_x4 o16_x5 o16_x6 o16_x10 o16_x11 o16_x12 o16_x14 hf_o16 ro16_0 ro16_1 ro16_2 => ?_)
    refine tpk_pos (tp_in hG ht_h1 (by decide)) hf_o16 (fun q17 eq17 => ?_)
    have ro16_1 := tp_hu ro16_1
    refine va_getN (D := (dC, dI)) (ci := 5) (v := .int o16_x5) (C := RX5) (T := TX5) (N := 17) hx hb hts hfX5 hown hK hP q17 eq17 rfl 5 (by decide) (va_Nw.use rfl (hN.1 (.fieldLinkNest RX9 133 "ColdShips$Ship" "drifting" "Z" "ColdShips") nzw_32)) (fun _ h9 => h9) rfl dX9_sail_72 ?_
    refine tp_join 102 (fun H locs ls stk => ∃ w18 : Int32, stk = [.int w18] ∧ (0 ≤ w18.toInt ∧ w18.toInt ≤ 1) ∧ va_P (dC, dI) vwCl (va_pl L f15) H ∧ va_D A (va_pl L f15) ∧ va_S A s.heap H locs ∧ lv_has ls 4 [(2, .int z13), (0, .ref h0), (1, .ref h1)]) ?_ (fun hj19 => ?_)
    · intro H locs ls stk hI
      refine Exists.elim hI (fun w18 hE90 => tn_6 hE90 (fun e90 rw18 hP hD hS hl => ?_))
      clear hE90 hI; subst e90
      refine lv_istore_n (lv' := [(3, .int w18), (2, .int z13), (0, .ref h0), (1, .ref h1)]) hx hb dX9_sail_102 rfl hl (by decide) rfl (fun ls hl => ?_)
      refine lv_iload_n hx hb dX9_sail_103 rfl (lv_at hl 0 rfl) ?_
      refine lv_if_ne (tgt := 125) hx hb dX9_sail_104 (by decide) (fun c20 => ?_) (fun c20 => ?_)
      · have ic20 : w18.toInt ≠ 0 := zi_ne rfl rfl c20
        exact W.vret hx hb hr (fun t ht hW => ⟨⟨f15, rfl, ⟨hT, hR, trivial⟩, by rw [ht]; exact hP, va_K.moved hW.alike hK, hD⟩, hS.F ht⟩) hS.2.2 dX9_sail_125
      · have ic20 : w18.toInt = 0 := zi_nef rfl rfl c20
        refine lv_aload_n hx hb dX9_sail_107 rfl (lv_at hl 3 rfl) ?_
        refine va_getN (D := (dC, dI)) (ci := 5) (v := .int o16_x3) (C := RX5) (T := TX5) (N := 17) hx hb hts hfX5 hown hK hP q17 eq17 rfl 3 (by decide) (va_Nw.use rfl (hN.1 (.fieldLinkNest RX9 50 "ColdShips$Ship" "left" "I" "ColdShips") nzw_29)) (fun _ h9 => h9) rfl dX9_sail_108 ?_
        refine lv_aload_n hx hb dX9_sail_111 rfl (lv_at hl 3 rfl) ?_
        refine va_getN (D := (dC, dI)) (ci := 5) (v := .int o16_x4) (C := RX5) (T := TX5) (N := 17) hx hb hts hfX5 hown hK hP q17 eq17 rfl 4 (by decide) (va_Nw.use rfl (hN.1 (.fieldLinkNest RX9 130 "ColdShips$Ship" "half" "I" "ColdShips") nzw_31)) (fun _ h9 => h9) rfl dX9_sail_112 ?_
        refine tp_join 126 (fun H locs ls stk => ∃ f22 : Nat → va_E, stk = [] ∧ tp_T Ω κ τ ν ρ f22 ∧ tp_F τ [6, 10, 20] f f22 ∧ va_P (dC, dI) vwCl (va_pl L f22) H ∧ va_D A (va_pl L f22) ∧ va_S A s.heap H locs ∧ lv_has ls 4 [(3, .int w18), (2, .int z13), (0, .ref h0), (1, .ref h1)]) ?_ (fun hj21 => ?_)
        · intro H locs ls stk hI
          refine Exists.elim hI (fun f22 hE90 => tn_7 hE90 (fun e90 hT hR hP hD hS hl => ?_))
          clear hE90 hI; subst e90
          refine lv_aload_n hx hb dX9_sail_126 rfl (lv_at hl 3 rfl) ?_
          refine lv_dup hx hb dX9_sail_127 rfl ?_
          refine tpk_6 hT ht_h1 (fun o23_x1 o23_x2 o23_x3 o23_x4 o23_x5 o23_x6 o23_x10 o23_x11 o23_x12 o23_x14 hf_o23 ro23_0 ro23_1 ro23_2 => ?_)
          refine tpk_pos (tp_in hG ht_h1 (by decide)) hf_o23 (fun q24 eq24 => ?_)
          refine va_getN (D := (dC, dI)) (ci := 5) (v := .int o23_x3) (C := RX5) (T := TX5) (N := 17) hx hb hts hfX5 hown hK hP q24 eq24 rfl 3 (by decide) (va_Nw.use rfl (hN.1 (.fieldLinkNest RX9 50 "ColdShips$Ship" "left" "I" "ColdShips") nzw_29)) (fun _ h9 => h9) rfl dX9_sail_128 ?_
          refine lv_iconst (v := 1) hx hb dX9_sail_131 (by decide) ?_
          refine lv_isub hx hb dX9_sail_132 ?_
          refine lv_topi (fun z25 ez25 => ?_)
          refine va_putN (D := (dC, dI)) (ci := 5) (v := .int z25) (ty := .int) (C := RX5) (T := TX5) (N := 17) hx hb hts hfX5 tyX5 tyX5_ok nmX5 hown hK hP hD hS q24 eq24 rfl 3 (by decide) (va_Nw.use rfl (hN.1 (.fieldLinkNest RX9 50 "ColdShips$Ship" "left" "I" "ColdShips") nzw_29)) (fun _ h9 => h9) rfl (tyX5_ok 3 (by decide)) rfl rfl (Nat.le_of_ble_eq_true rfl) dX9_sail_133 (tp_k (.inr (5, [.ref (ρ h1 0), .int o23_x1, .int o23_x2, .int z25, .int o23_x4, .int o23_x5, .int o23_x6, .ref (ρ h1 7), .ref (ρ h1 8), .ref (ρ h1 9), .int o23_x10, .int o23_x11, .int o23_x12, .ref (ρ h1 13), .int o23_x14, .ref (ρ h1 15), .ref (ρ h1 16)])) hD (tp_in hG ht_h1 (by decide)) eq24 (fun f26 H locs hP hD hS g28 k27 => ?_))
          have hT := hT.up ht_h1 g28 k27 ⟨_, _, _, _, _, _, _, _, _, _, rfl, ro23_0, ro23_1, ro23_2⟩
          have hR := hR.up ht_h1 (by decide) k27
          refine lv_aload_n hx hb dX9_sail_136 rfl (lv_at hl 3 rfl) ?_
          refine tpk_pos (tp_in hG ht_h1 (by decide)) g28 (fun q29 eq29 => ?_)
          refine va_getN (D := (dC, dI)) (ci := 5) (v := .int z25) (C := RX5) (T := TX5) (N := 17) hx hb hts hfX5 hown hK hP q29 eq29 rfl 3 (by decide) (va_Nw.use rfl (hN.1 (.fieldLinkNest RX9 50 "ColdShips$Ship" "left" "I" "ColdShips") nzw_29)) (fun _ h9 => h9) rfl dX9_sail_137 ?_
          refine lv_if_ne (tgt := 147) hx hb dX9_sail_140 (by decide) (fun c30 => ?_) (fun c30 => ?_)
          · have ic30 : z25.toInt ≠ 0 := zi_ne rfl rfl c30
            exact W.vret hx hb hr (fun t ht hW => ⟨⟨f26, rfl, ⟨hT, hR, trivial⟩, by rw [ht]; exact hP, va_K.moved hW.alike hK, hD⟩, hS.F ht⟩) hS.2.2 dX9_sail_147
          · have ic30 : z25.toInt = 0 := zi_nef rfl rfl c30
            refine lv_aload_n hx hb dX9_sail_143 rfl (lv_at hl 3 rfl) ?_
            have hFc := tp_fr hD hS hA
            refine va_callv (va_runV (As := []) (rest := []) ⟨hx, hb, hml, hown, hts⟩ (t_X5_endOrder l dC dI _ Ω κ τ ν ρ L f26 hG hT h1 ht_h1) (cwV 0 hts gX9_sail_X5_endOrder rfl rfl rfl ⟨rfl, pd_X5_endOrder⟩ ⟨Nat.le_of_ble_eq_true rfl, Nat.le_of_ble_eq_true rfl⟩) ⟨pz_blind, va_recv hK hP (ci := 5) (q0 := q29) rfl eq29, pz_pre hP hK hD hN⟩ rfl rfl hl.1 rfl (lv_room (Nat.le_of_ble_eq_true rfl)) dX9_sail_144 ⟨Nat.le_of_ble_eq_true rfl, Nat.le_of_ble_eq_true rfl⟩) hS (fun q _ h => hFc q h) hFc (fun f33 t H1 locs ht hvm hw32 hB hz1 hk1 hS => ?_)
            refine tn_3 hw32 (fun hT hF34 hw32p => ?_); clear hw32
            have hR := hR.then hF34 (by decide)
            have hP := hB.1; rw [ht] at hP; have hD := tp_ad f33 hD; clear hB hFc hz1 hk1; subst ht; generalize t.heap = H at hP hS ⊢
            exact W.vret hx hb hr (fun t ht hW => ⟨⟨f33, rfl, ⟨hT, hR, trivial⟩, by rw [ht]; exact hP, va_K.moved hW.alike hK, hD⟩, hS.F ht⟩) hS.2.2 dX9_sail_147
        · refine lv_icmp_ne (tgt := 126) hx hb dX9_sail_115 (by decide) (fun c35 => ?_) (fun c35 => ?_)
          · have ic35 : o16_x3.toInt ≠ o16_x4.toInt := zi_ne rfl rfl c35
            exact hj21 _ _ _ _ ⟨f15, rfl, hT, hR, hP, hD, hS, lv_sub hl [0, 1, 2, 3] rfl⟩
          · have ic35 : o16_x3.toInt = o16_x4.toInt := zi_nef rfl rfl c35
            refine lv_aload_n hx hb dX9_sail_118 rfl (lv_at hl 2 rfl) ?_
            have ⟨y36, y36l⟩ := tpg_10 hG ht_h0
            refine tpk_10 hT ht_h0 (fun o37_x1 o37_x2 o37_x3 hf_o37 ro37_0 ro37_1 => ?_)
            refine tpk_pos (tp_in hG ht_h0 (by decide)) hf_o37 (fun q38 eq38 => ?_)
            have hFc := tp_fr hD hS hA
            refine va_calli (va_runV (As := []) (rest := []) ⟨hx, hb, hml, hown, hts⟩ (t_X9_takesTurn l dC dI _ Ω κ τ ν ρ L f15 hG hT h0 ht_h0) (cwV 0 hts gX9_sail_X9_takesTurn rfl rfl rfl ⟨rfl, pd_X9_takesTurn⟩ ⟨Nat.le_of_ble_eq_true rfl, Nat.le_of_ble_eq_true rfl⟩) ⟨pz_blind, va_recv hK hP (ci := 9) (q0 := q38) rfl eq38, pz_pre hP hK hD hN⟩ rfl rfl hl.1 rfl (lv_room (Nat.le_of_ble_eq_true rfl)) dX9_sail_119 ⟨Nat.le_of_ble_eq_true rfl, Nat.le_of_ble_eq_true rfl⟩) hS (fun q _ h => hFc q h) hFc (fun r39 f41 t H1 locs ht hvm hw40 hB hz1 hk1 hS => ?_)
            refine tn_4 hw40 (fun hT hF42 hw40r hw40p => ?_); clear hw40
            have hR := hR.then hF42 (by decide)
            have hP := hB.1; rw [ht] at hP; have hD := tp_ad f41 hD; clear hB hFc hz1 hk1; subst ht; generalize t.heap = H at hP hS ⊢
            refine lv_if_ne (tgt := 126) hx hb dX9_sail_122 (by decide) (fun c43 => ?_) (fun c43 => ?_)
            · have ic43 : r39.toInt ≠ 0 := zi_ne rfl rfl c43
              exact hj21 _ _ _ _ ⟨f41, rfl, hT, hR, hP, hD, hS, lv_sub hl [0, 1, 2, 3] rfl⟩
            · have ic43 : r39.toInt = 0 := zi_nef rfl rfl c43
              exact W.vret hx hb hr (fun t ht hW => ⟨⟨f41, rfl, ⟨hT, hR, trivial⟩, by rw [ht]; exact hP, va_K.moved hW.alike hK, hD⟩, hS.F ht⟩) hS.2.2 dX9_sail_125
    · refine lv_if_ne (tgt := 97) hx hb dX9_sail_75 (by decide) (fun c44 => ?_) (fun c44 => ?_)
      · have ic44 : o16_x5.toInt ≠ 0 := zi_ne rfl rfl c44
        refine lv_iconst (v := 1) hx hb dX9_sail_97 (by decide) ?_
        refine lv_goto (tgt := 102) hx hb dX9_sail_98 (by decide) ?_
        exact hj19 _ _ _ _ ⟨1, rfl, (by have : (1 : Int32).toInt = 1 := rfl; omega), hP, hD, hS, lv_sub hl [0, 1, 2] rfl⟩
      · have ic44 : o16_x5.toInt = 0 := zi_nef rfl rfl c44
        refine lv_aload_n hx hb dX9_sail_78 rfl (lv_at hl 1 rfl) ?_
        have ⟨y45, y45l⟩ := tpg_10 hG ht_h0
        refine tpk_10 hT ht_h0 (fun o46_x1 o46_x2 o46_x3 hf_o46 ro46_0 ro46_1 => ?_)
        refine tpk_pos (tp_in hG ht_h0 (by decide)) hf_o46 (fun q47 eq47 => ?_)
        refine va_get (D := (dC, dI)) (ci := 9) (v := .int o46_x2) (C := RX9) (T := TX9) (N := 4) hx hb hts hfX9 hown hK hP q47 eq47 rfl 2 (by decide) (hts (.fieldLink RX9 32 "ColdShips$Watch" "sea" "I") wa_405) (fun _ h9 => h9) rfl dX9_sail_79 ?_
        refine lv_bipush (v := 6) hx hb dX9_sail_82 (by decide) ?_
        refine lv_icmp_le (tgt := 101) hx hb dX9_sail_84 (by decide) (fun c48 => ?_) (fun c48 => ?_)
        · have ic48 : o46_x2.toInt ≤ 6 := zi_le rfl rfl c48
          refine lv_iconst (v := 0) hx hb dX9_sail_101 (by decide) ?_
          exact hj19 _ _ _ _ ⟨0, rfl, (by have : (0 : Int32).toInt = 0 := rfl; omega), hP, hD, hS, lv_sub hl [0, 1, 2] rfl⟩
        · have ic48 : o46_x2.toInt > 6 := zi_lef rfl rfl c48
          refine lv_aload_n hx hb dX9_sail_87 rfl (lv_at hl 1 rfl) ?_
          have ro46_0 := tp_hu ro46_0
          refine va_get (D := (dC, dI)) (ci := 9) (v := .int o46_x1) (C := RX9) (T := TX9) (N := 4) hx hb hts hfX9 hown hK hP q47 eq47 rfl 1 (by decide) (hts (.fieldLink RX9 25 "ColdShips$Watch" "hour" "I") wa_404) (fun _ h9 => h9) rfl dX9_sail_88 ?_
          refine lv_iconst (v := 2) hx hb dX9_sail_91 (by decide) ?_
          refine lv_irem hx hb dX9_sail_92 (by decide) ?_
          refine lv_topi (fun z49 ez49 => ?_)
          have iz49 : z49.toInt = o46_x1.toInt % 2 := zi_rem ez49 rfl (show (2 : Int32).toInt = 2 from rfl) (by omega) (by omega)
          refine lv_iconst (v := 1) hx hb dX9_sail_93 (by decide) ?_
          refine lv_icmp_ne (tgt := 101) hx hb dX9_sail_94 (by decide) (fun c50 => ?_) (fun c50 => ?_)
          · have ic50 : z49.toInt ≠ 1 := zi_ne rfl rfl c50
            refine lv_iconst (v := 0) hx hb dX9_sail_101 (by decide) ?_
            exact hj19 _ _ _ _ ⟨0, rfl, (by have : (0 : Int32).toInt = 0 := rfl; omega), hP, hD, hS, lv_sub hl [0, 1, 2] rfl⟩
          · have ic50 : z49.toInt = 1 := zi_nef rfl rfl c50
            refine lv_iconst (v := 1) hx hb dX9_sail_97 (by decide) ?_
            refine lv_goto (tgt := 102) hx hb dX9_sail_98 (by decide) ?_
            exact hj19 _ _ _ _ ⟨1, rfl, (by have : (1 : Int32).toInt = 1 := rfl; omega), hP, hD, hS, lv_sub hl [0, 1, 2] rfl⟩
  · refine lv_if_ne (tgt := 71) hx hb dX9_sail_11 (by decide) (fun c51 => ?_) (fun c51 => ?_)
    · have ic51 : o8_x3.toInt ≠ 0 := zi_ne rfl rfl c51
      exact hj14 _ _ _ _ ⟨f, rfl, hT, hR, hP, hD, hS, lv_sub hl [0, 1, 2] rfl⟩
    · have ic51 : o8_x3.toInt = 0 := zi_nef rfl rfl c51
      refine lv_aload_n hx hb dX9_sail_14 rfl (lv_at hl 1 rfl) ?_
      have ⟨y52, y52l⟩ := tpg_10 hG ht_h0
      refine tpk_10 hT ht_h0 (fun o53_x1 o53_x2 o53_x3 hf_o53 ro53_0 ro53_1 => ?_)
      refine tpk_pos (tp_in hG ht_h0 (by decide)) hf_o53 (fun q54 eq54 => ?_)
      refine va_get (D := (dC, dI)) (ci := 9) (v := .ref (ρ h0 0)) (C := RX9) (T := TX9) (N := 4) hx hb hts hfX9 hown hK hP q54 eq54 rfl 0 (by decide) (hts (.fieldLink RX9 9 "ColdShips$Watch" "world" "LColdShips$World;") wa_114) (fun _ h9 => h9) rfl dX9_sail_15 ?_
      refine lv_aload_n hx hb dX9_sail_18 rfl (lv_at hl 2 rfl) ?_
      have ro8_0 := tp_hu ro8_0
      refine va_getN (D := (dC, dI)) (ci := 5) (v := .int o8_x2) (C := RX5) (T := TX5) (N := 17) hx hb hts hfX5 hown hK hP q9 eq9 rfl 2 (by decide) (va_Nw.use rfl (hN.1 (.fieldLinkNest RX9 114 "ColdShips$Ship" "where" "I" "ColdShips") nzw_27)) (fun _ h9 => h9) rfl dX9_sail_19 ?_
      refine lv_iload_n hx hb dX9_sail_22 rfl (lv_at hl 0 rfl) ?_
      refine tgk_11 hG y52 (fun y55 y55n y56 y56n y57 y58 y59 y60 y60m y60l y61 y61m y61l y62 y62m y62l y63 y63w y63m y63l y64 y64w y64m y64l y65 y65w y65m y65l y66 y66w y66m y66l => ?_)
      refine tpk_11 hT y52 (fun o67_x0 o67_x1 o67_x2 o67_x3 o67_x4 o67_x5 o67_x6 hf_o67 ro67_0 ro67_1 ro67_2 ro67_3 => ?_)
      refine tpk_pos (tp_in hG y52 (by decide)) hf_o67 (fun q68 eq68 => ?_)
      have ro67_0 := tp_hu ro67_0; have ro67_1 := tp_hu ro67_1; have ro67_2 := tp_hu ro67_2; have ro67_3 := tp_hu ro67_3
      refine pz_calli (va_runV (As := [.int o8_x2, .int z13]) (rest := []) ⟨hx, hb, hml, hown, hts⟩ (t_X10_hoursBetween l dC dI _ Ω κ τ ν ρ L f hG hT (ρ h0 0) o8_x2 z13 y52 o67_x0 o67_x1 o67_x2 o67_x3 o67_x4 o67_x5 o67_x6 hf_o67) (cwV 2 hts gX9_sail_X10_hoursBetween rfl rfl rfl ⟨rfl, pd_X10_hoursBetween⟩ ⟨Nat.le_of_ble_eq_true rfl, Nat.le_of_ble_eq_true rfl⟩) ⟨pz_blind, va_recv hK hP (ci := 10) (q0 := q68) rfl eq68, pz_pre hP hK hD hN⟩ rfl rfl hl.1 rfl (lv_room (Nat.le_of_ble_eq_true rfl)) dX9_sail_23 ⟨Nat.le_of_ble_eq_true rfl, Nat.le_of_ble_eq_true rfl⟩) (fun r69 hw70 => ?_)
      obtain ⟨hw70r, hw70p⟩ := hw70
      refine lv_istore_n (lv' := [(3, .int r69), (2, .int z13), (0, .ref h0), (1, .ref h1)]) hx hb dX9_sail_26 rfl hl (by decide) rfl (fun ls hl => ?_)
      refine lv_iload_n hx hb dX9_sail_27 rfl (lv_at hl 0 rfl) ?_
      refine tp_join 35 (fun H locs ls stk => ∃ f72 : Nat → va_E, stk = [] ∧ tp_T Ω κ τ ν ρ f72 ∧ tp_F τ [6, 10, 20] f f72 ∧ va_P (dC, dI) vwCl (va_pl L f72) H ∧ va_D A (va_pl L f72) ∧ va_S A s.heap H locs ∧ lv_has ls 4 [(3, .int r69), (2, .int z13), (0, .ref h0), (1, .ref h1)]) ?_ (fun hj71 => ?_)
      · intro H locs ls stk hI
        refine Exists.elim hI (fun f72 hE90 => tn_7 hE90 (fun e90 hT hR hP hD hS hl => ?_))
        clear hE90 hI; subst e90
        refine lv_iload_n hx hb dX9_sail_35 rfl (lv_at hl 0 rfl) ?_
        refine lv_if_gt (tgt := 40) hx hb dX9_sail_36 (by decide) (fun c73 => ?_) (fun c73 => ?_)
        · have ic73 : r69.toInt > 0 := zi_gt rfl rfl c73
          have p74 : 0 ≤ o8_x2.toInt ∧ o8_x2.toInt ≤ 5 ∧ 0 ≤ z13.toInt ∧ z13.toInt ≤ 5 := hw70p (by omega)
          refine lv_aload_n hx hb dX9_sail_40 rfl (lv_at hl 3 rfl) ?_
          refine lv_aload_n hx hb dX9_sail_41 rfl (lv_at hl 2 rfl) ?_
          refine tpk_10 hT ht_h0 (fun o75_x1 o75_x2 o75_x3 hf_o75 ro75_0 ro75_1 => ?_)
          refine tpk_pos (tp_in hG ht_h0 (by decide)) hf_o75 (fun q76 eq76 => ?_)
          refine va_get (D := (dC, dI)) (ci := 9) (v := .ref (ρ h0 0)) (C := RX9) (T := TX9) (N := 4) hx hb hts hfX9 hown hK hP q76 eq76 rfl 0 (by decide) (hts (.fieldLink RX9 9 "ColdShips$Watch" "world" "LColdShips$World;") wa_114) (fun _ h9 => h9) rfl dX9_sail_42 ?_
          refine tpk_11 hT y52 (fun o77_x0 o77_x1 o77_x2 o77_x3 o77_x4 o77_x5 o77_x6 hf_o77 ro77_0 ro77_1 ro77_2 ro77_3 => ?_)
          refine tpk_pos (tp_in hG y52 (by decide)) hf_o77 (fun q78 eq78 => ?_)
          refine va_getN (D := (dC, dI)) (ci := 10) (v := .ref (ρ (ρ h0 0) 9)) (C := RX10) (T := TX10) (N := 19) hx hb hts hfX10 hown hK hP q78 eq78 rfl 9 (by decide) (va_Nw.use rfl (hN.1 (.fieldLinkNest RX9 121 "ColdShips$World" "terminals" "[LColdShips$Terminal;" "ColdShips") nzw_66)) (fun _ h9 => h9) rfl dX9_sail_45 ?_
          refine lv_aload_n hx hb dX9_sail_48 rfl (lv_at hl 3 rfl) ?_
          refine tpk_6 hT ht_h1 (fun o79_x1 o79_x2 o79_x3 o79_x4 o79_x5 o79_x6 o79_x10 o79_x11 o79_x12 o79_x14 hf_o79 ro79_0 ro79_1 ro79_2 => ?_)
          refine tpk_pos (tp_in hG ht_h1 (by decide)) hf_o79 (fun q80 eq80 => ?_)
          have ro79_0 := tp_hu ro79_0
          refine va_getN (D := (dC, dI)) (ci := 5) (v := .int o79_x2) (C := RX5) (T := TX5) (N := 17) hx hb hts hfX5 hown hK hP q80 eq80 rfl 2 (by decide) (va_Nw.use rfl (hN.1 (.fieldLinkNest RX9 114 "ColdShips$Ship" "where" "I" "ColdShips") nzw_27)) (fun _ h9 => h9) rfl dX9_sail_49 ?_
          refine tpk_24 hT y57 (fun g82 hf_o81 hf_o81e => ?_)
          refine tpk_pos (tp_in hG y57 (by decide)) hf_o81 (fun q83 eq83 => ?_)
          refine va_aldq hx hb hK hP q83 4 eq83 rfl (vp_in_iff.mpr ⟨by omega, by omega⟩) dX9_sail_52 ?_
          obtain ⟨b84, hb85⟩ : ∃ b : Nat, b = ρ (ρ (ρ h0 0) 9) o79_x2.toNatClampNeg := ⟨_, rfl⟩
          have hb85t : τ b84 = 9 := by rw [hb85]; exact tpg_24 hG y57 _ (zi_cl (vp_in_iff.mpr ⟨by omega, by omega⟩))
          have hb85g : g82 o79_x2.toNatClampNeg = some b84 := by rw [hb85]; exact hf_o81e _ (zi_cl (vp_in_iff.mpr ⟨by omega, by omega⟩))
          refine W.eq (g2 := F0 m 53 ls (.ref b84 :: [.ref h1])) (congrArg (fun o => F0 m 53 ls (va_rf o :: [.ref h1])) hb85g) ?_
          refine tgk_9 hG hb85t (fun y86 y86n y87 y87n => ?_)
          refine tpk_9 hT hb85t (fun o88_x0 o88_x1 o88_x2 o88_x3 o88_x4 hf_o88 ro88_0 => ?_)
          refine tpk_pos (tp_in hG hb85t (by decide)) hf_o88 (fun q89 eq89 => ?_)
          refine va_getN (D := (dC, dI)) (ci := 8) (v := .ref (ρ b84 6)) (C := RX8) (T := TX8) (N := 7) hx hb hts hfX8 hown hK hP q89 eq89 rfl 6 (by decide) (va_Nw.use rfl (hN.1 (.fieldLinkNest RX9 125 "ColdShips$Terminal" "wayHalf" "[I" "ColdShips") nzw_13)) (fun _ h9 => h9) rfl dX9_sail_53 ?_
          refine lv_iload_n hx hb dX9_sail_56 rfl (lv_at hl 1 rfl) ?_
          refine tpk_20 hT y87 y87n (fun g91 hf_o90 => ?_)
          refine tpk_pos (tp_in hG y87 (by decide)) hf_o90 (fun q92 eq92 => ?_)
          refine va_iald hx hb hK hP q92 0 eq92 rfl (vp_in_iff.mpr ⟨by omega, by omega⟩) dX9_sail_57 ?_
          refine lv_topi (fun z93 ez93 => ?_)
          refine va_putN (D := (dC, dI)) (ci := 5) (v := .int z93) (ty := .int) (C := RX5) (T := TX5) (N := 17) hx hb hts hfX5 tyX5 tyX5_ok nmX5 hown hK hP hD hS q80 eq80 rfl 4 (by decide) (va_Nw.use rfl (hN.1 (.fieldLinkNest RX9 130 "ColdShips$Ship" "half" "I" "ColdShips") nzw_31)) (fun _ h9 => h9) rfl (tyX5_ok 4 (by decide)) rfl rfl (Nat.le_of_ble_eq_true rfl) dX9_sail_58 (tp_k (.inr (5, [.ref (ρ h1 0), .int o79_x1, .int o79_x2, .int o79_x3, .int z93, .int o79_x5, .int o79_x6, .ref (ρ h1 7), .ref (ρ h1 8), .ref (ρ h1 9), .int o79_x10, .int o79_x11, .int o79_x12, .ref (ρ h1 13), .int o79_x14, .ref (ρ h1 15), .ref (ρ h1 16)])) hD (tp_in hG ht_h1 (by decide)) eq80 (fun f94 H locs hP hD hS g96 k95 => ?_))
          have hT := hT.up ht_h1 g96 k95 ⟨_, _, _, _, _, _, _, _, _, _, rfl, ro79_0, ro79_1, ro79_2⟩
          have hR := hR.up ht_h1 (by decide) k95
          refine lv_aload_n hx hb dX9_sail_61 rfl (lv_at hl 3 rfl) ?_
          refine lv_iload_n hx hb dX9_sail_62 rfl (lv_at hl 0 rfl) ?_
          refine tpk_pos (tp_in hG ht_h1 (by decide)) g96 (fun q97 eq97 => ?_)
          refine va_putN (D := (dC, dI)) (ci := 5) (v := .int r69) (ty := .int) (C := RX5) (T := TX5) (N := 17) hx hb hts hfX5 tyX5 tyX5_ok nmX5 hown hK hP hD hS q97 eq97 rfl 3 (by decide) (va_Nw.use rfl (hN.1 (.fieldLinkNest RX9 50 "ColdShips$Ship" "left" "I" "ColdShips") nzw_29)) (fun _ h9 => h9) rfl (tyX5_ok 3 (by decide)) rfl rfl (Nat.le_of_ble_eq_true rfl) dX9_sail_63 (tp_k (.inr (5, [.ref (ρ h1 0), .int o79_x1, .int o79_x2, .int r69, .int z93, .int o79_x5, .int o79_x6, .ref (ρ h1 7), .ref (ρ h1 8), .ref (ρ h1 9), .int o79_x10, .int o79_x11, .int o79_x12, .ref (ρ h1 13), .int o79_x14, .ref (ρ h1 15), .ref (ρ h1 16)])) hD (tp_in hG ht_h1 (by decide)) eq97 (fun f98 H locs hP hD hS g100 k99 => ?_))
          have hT := hT.up ht_h1 g100 k99 ⟨_, _, _, _, _, _, _, _, _, _, rfl, ro79_0, ro79_1, ro79_2⟩
          have hR := hR.up ht_h1 (by decide) k99
          refine lv_aload_n hx hb dX9_sail_66 rfl (lv_at hl 3 rfl) ?_
          refine lv_iload_n hx hb dX9_sail_67 rfl (lv_at hl 1 rfl) ?_
          refine tpk_pos (tp_in hG ht_h1 (by decide)) g100 (fun q101 eq101 => ?_)
          refine va_putN (D := (dC, dI)) (ci := 5) (v := .int z13) (ty := .int) (C := RX5) (T := TX5) (N := 17) hx hb hts hfX5 tyX5 tyX5_ok nmX5 hown hK hP hD hS q101 eq101 rfl 2 (by decide) (va_Nw.use rfl (hN.1 (.fieldLinkNest RX9 114 "ColdShips$Ship" "where" "I" "ColdShips") nzw_27)) (fun _ h9 => h9) rfl (tyX5_ok 2 (by decide)) rfl rfl (Nat.le_of_ble_eq_true rfl) dX9_sail_68 (tp_k (.inr (5, [.ref (ρ h1 0), .int o79_x1, .int z13, .int r69, .int z93, .int o79_x5, .int o79_x6, .ref (ρ h1 7), .ref (ρ h1 8), .ref (ρ h1 9), .int o79_x10, .int o79_x11, .int o79_x12, .ref (ρ h1 13), .int o79_x14, .ref (ρ h1 15), .ref (ρ h1 16)])) hD (tp_in hG ht_h1 (by decide)) eq101 (fun f102 H locs hP hD hS g104 k103 => ?_))
          have hT := hT.up ht_h1 g104 k103 ⟨_, _, _, _, _, _, _, _, _, _, rfl, (by first | decide | omega | (omega)), ro79_1, ro79_2⟩
          have hR := hR.up ht_h1 (by decide) k103
          exact hj14 _ _ _ _ ⟨f102, rfl, hT, hR, hP, hD, hS, lv_sub hl [1, 2, 3] rfl⟩
        · have ic73 : r69.toInt ≤ 0 := zi_gtf rfl rfl c73
          exact W.vret hx hb hr (fun t ht hW => ⟨⟨f72, rfl, ⟨hT, hR, trivial⟩, by rw [ht]; exact hP, va_K.moved hW.alike hK, hD⟩, hS.F ht⟩) hS.2.2 dX9_sail_39
      · refine lv_if_ne (tgt := 35) hx hb dX9_sail_28 (by decide) (fun c105 => ?_) (fun c105 => ?_)
        · have ic105 : r69.toInt ≠ 0 := zi_ne rfl rfl c105
          exact hj71 _ _ _ _ ⟨f, rfl, hT, hR, hP, hD, hS, lv_sub hl [0, 1, 2, 3] rfl⟩
        · have ic105 : r69.toInt = 0 := zi_nef rfl rfl c105
          have p106 : 0 ≤ o8_x2.toInt ∧ o8_x2.toInt ≤ 5 ∧ 0 ≤ z13.toInt ∧ z13.toInt ≤ 5 := hw70p (by omega)
          refine lv_aload_n hx hb dX9_sail_31 rfl (lv_at hl 3 rfl) ?_
          have hFc := tp_fr hD hS hA
          refine va_callv (va_runV (As := []) (rest := []) ⟨hx, hb, hml, hown, hts⟩ (t_X5_endOrder l dC dI _ Ω κ τ ν ρ L f hG hT h1 ht_h1) (cwV 0 hts gX9_sail_X5_endOrder rfl rfl rfl ⟨rfl, pd_X5_endOrder⟩ ⟨Nat.le_of_ble_eq_true rfl, Nat.le_of_ble_eq_true rfl⟩) ⟨pz_blind, va_recv hK hP (ci := 5) (q0 := q9) rfl eq9, pz_pre hP hK hD hN⟩ rfl rfl hl.1 rfl (lv_room (Nat.le_of_ble_eq_true rfl)) dX9_sail_32 ⟨Nat.le_of_ble_eq_true rfl, Nat.le_of_ble_eq_true rfl⟩) hS (fun q _ h => hFc q h) hFc (fun f109 t H1 locs ht hvm hw108 hB hz1 hk1 hS => ?_)
          refine tn_3 hw108 (fun hT hF110 hw108p => ?_); clear hw108
          have hR := hR.then hF110 (by decide)
          have hP := hB.1; rw [ht] at hP; have hD := tp_ad f109 hD; clear hB hFc hz1 hk1; subst ht; generalize t.heap = H at hP hS ⊢
          exact hj71 _ _ _ _ ⟨f109, rfl, hT, hR, hP, hD, hS, lv_sub hl [0, 1, 2, 3] rfl⟩
set_option maxHeartbeats 4000000 in
set_option maxRecDepth 100000 in
theorem t_X9_load (l : Launch) (dC : Nat → ClassId) (dI : Nat → Nat → Nat) (sz : Nat) (Ω : Nat → Nat → (Nat → Nat) → va_E → Prop) (κ : Nat → ClassId) (τ ν : Nat → Nat) (ρ : Nat → Nat → Nat) (L : List Nat) (f : Nat → va_E) (hG : tp_G τ ν ρ L) (hT : tp_T Ω κ τ ν ρ f) (h0 : Nat) (h1 : Nat) (ht_h0 : τ h0 = 10) (ht_h1 : τ h1 = 6) : Met l yX9_load wqX9_load ({ frames := 3, cells := 0, slots := 0, locals := 800 }) (va_Pc [.ref h0, .ref h1] (pz_B dC dI (tp_K κ) (va_pl L f) sz)) (va_Qv (fun (f1 : Nat → va_E) => tp_T Ω κ τ ν ρ f1 ∧ tp_F τ [6, 8, 9, 20, 21] f f1 ∧ True) (fun (f1 : Nat → va_E) (t : State) => pz_E dC dI (tp_K κ) (va_A (va_pl L f) sz) (va_pl L f1) t) (va_A (va_pl L f) sz)) 0 0 (va_A (va_pl L f) sz) := by
  refine Met.ofW (cc := cX9_load) (maxL := 6) (ret := none) (by decide) rfl ?_
  intro p e s m args below meth c s₁ B hml hv
  obtain ⟨rfl, hsz, hP, hK, hD0, hN⟩ := hv
  have hx := B.exec
  have hb := B.bytes
  have hr := B.returns
  have hts := fun (w : Cond) (h : w ∈ WALL) => atoms_spec (ws := wqX9_load) B.pre w (List.mem_cons_of_mem _ h)
  have hown : s.vm.findClass RX9 = some m.cls := findClass_of_methodNamed B.named
  have hlocks := B.notSynchronized
  subst hsz
  have hD := hD0.self (sz := s.heap.size)
  generalize hAe : va_A (va_pl L f) s.heap.size = A at hD ⊢
  have hA : ∀ q : Nat, s.heap.size ≤ q → A q := fun q h => by rw [← hAe]; exact Or.inr h
  have hS : va_S A s.heap s.heap [] := va_S.rf
  have hR : tp_F τ [6, 8, 9, 20, 21] f f := tp_F.rf
  have hl := lv_entry ([.ref h0, .ref h1]) (n := 6) (Nat.le_of_ble_eq_true rfl)
  rw [lg_entry_eq]
  generalize (lg_sl ([.ref h0, .ref h1]) ++ List.replicate (6 - (lg_sl ([.ref h0, .ref h1])).length) Slot.unset).toArray = ls at hl ⊢
  have hl : lv_has ls 6 [(0, .ref h0), (1, .ref h1)] := hl
  refine lv_aload_n hx hb dX9_load_0 rfl (lv_at hl 0 rfl) ?_
  have ⟨y1, y1l⟩ := tpg_10 hG ht_h0
  refine tpk_10 hT ht_h0 (fun o2_x1 o2_x2 o2_x3 hf_o2 ro2_0 ro2_1 => ?_)
  refine tpk_pos (tp_in hG ht_h0 (by decide)) hf_o2 (fun q3 eq3 => ?_)
  refine va_get (D := (dC, dI)) (ci := 9) (v := .ref (ρ h0 0)) (C := RX9) (T := TX9) (N := 4) hx hb hts hfX9 hown hK hP q3 eq3 rfl 0 (by decide) (hts (.fieldLink RX9 9 "ColdShips$Watch" "world" "LColdShips$World;") wa_114) (fun _ h9 => h9) rfl dX9_load_1 ?_
  refine tgk_11 hG y1 (fun y4 y4n y5 y5n y6 y7 y8 y9 y9m y9l y10 y10m y10l y11 y11m y11l y12 y12w y12m y12l y13 y13w y13m y13l y14 y14w y14m y14l y15 y15w y15m y15l => ?_)
  refine tpk_11 hT y1 (fun o16_x0 o16_x1 o16_x2 o16_x3 o16_x4 o16_x5 o16_x6 hf_o16 ro16_0 ro16_1 ro16_2 ro16_3 => ?_)
  refine tpk_pos (tp_in hG y1 (by decide)) hf_o16 (fun q17 eq17 => ?_)
  refine va_getN (D := (dC, dI)) (ci := 10) (v := .ref (ρ (ρ h0 0) 9)) (C := RX10) (T := TX10) (N := 19) hx hb hts hfX10 hown hK hP q17 eq17 rfl 9 (by decide) (va_Nw.use rfl (hN.1 (.fieldLinkNest RX9 121 "ColdShips$World" "terminals" "[LColdShips$Terminal;" "ColdShips") nzw_66)) (fun _ h9 => h9) rfl dX9_load_4 ?_
  refine lv_aload_n hx hb dX9_load_7 rfl (lv_at hl 1 rfl) ?_
  refine tgk_6 hG ht_h1 (fun y18 y19 y19n y20 y20n y21 y21n y22 y22n y23 y23n y24 y24n => ?_)
  refine tpk_6 hT ht_h1 (fun o25_x1 o25_x2 o25_x3 o25_x4 o25_x5 o25_x6 o25_x10 o25_x11 o25_x12 o25_x14 hf_o25 ro25_0 ro25_1 ro25_2 => ?_)
  refine tpk_pos (tp_in hG ht_h1 (by decide)) hf_o25 (fun q26 eq26 => ?_)
  have ro25_0 := tp_hu ro25_0
  refine va_getN (D := (dC, dI)) (ci := 5) (v := .int o25_x2) (C := RX5) (T := TX5) (N := 17) hx hb hts hfX5 hown hK hP q26 eq26 rfl 2 (by decide) (va_Nw.use rfl (hN.1 (.fieldLinkNest RX9 114 "ColdShips$Ship" "where" "I" "ColdShips") nzw_27)) (fun _ h9 => h9) rfl dX9_load_8 ?_
  refine tpk_24 hT y6 (fun g28 hf_o27 hf_o27e => ?_)
  refine tpk_pos (tp_in hG y6 (by decide)) hf_o27 (fun q29 eq29 => ?_)
  refine va_aldq hx hb hK hP q29 4 eq29 rfl (vp_in_iff.mpr ⟨by omega, by omega⟩) dX9_load_11 ?_
  obtain ⟨b30, hb31⟩ : ∃ b : Nat, b = ρ (ρ (ρ h0 0) 9) o25_x2.toNatClampNeg := ⟨_, rfl⟩
  have hb31t : τ b30 = 9 := by rw [hb31]; exact tpg_24 hG y6 _ (zi_cl (vp_in_iff.mpr ⟨by omega, by omega⟩))
  have hb31g : g28 o25_x2.toNatClampNeg = some b30 := by rw [hb31]; exact hf_o27e _ (zi_cl (vp_in_iff.mpr ⟨by omega, by omega⟩))
  refine W.eq (g2 := F0 m 12 ls (.ref b30 :: [])) (congrArg (fun o => F0 m 12 ls (va_rf o :: [])) hb31g) ?_
  refine lv_astore_n (lv' := [(2, .ref b30), (0, .ref h0), (1, .ref h1)]) hx hb dX9_load_12 rfl hl (by decide) rfl (fun ls hl => ?_)
  refine lv_aload_n hx hb dX9_load_13 rfl (lv_at hl 2 rfl) ?_
  refine va_getN (D := (dC, dI)) (ci := 5) (v := .ref (ρ h1 0)) (C := RX5) (T := TX5) (N := 17) hx hb hts hfX5 hown hK hP q26 eq26 rfl 0 (by decide) (va_Nw.use rfl (hN.1 (.fieldLinkNest RX9 55 "ColdShips$Ship" "tank" "LColdShips$Tank;" "ColdShips") nzw_21)) (fun _ h9 => h9) rfl dX9_load_14 ?_
  refine tgk_8 hG y18 (fun y32 y32n y33 y33n y34 y34n => ?_)
  refine tpk_8 hT y18 (fun o35_x0 o35_x1 o35_x2 o35_x3 hf_o35 ro35_0 => ?_)
  refine tpk_pos (tp_in hG y18 (by decide)) hf_o35 (fun q36 eq36 => ?_)
  refine va_getN (D := (dC, dI)) (ci := 7) (v := .int o35_x3) (C := RX7) (T := TX7) (N := 7) hx hb hts hfX7 hown hK hP q36 eq36 rfl 3 (by decide) (va_Nw.use rfl (hN.1 (.fieldLinkNest RX9 169 "ColdShips$Tank" "warm" "I" "ColdShips") nzw_17)) (fun _ h9 => h9) rfl dX9_load_17 ?_
  refine lv_sipush (v := 200) hx hb dX9_load_20 (by decide) ?_
  refine tp_join 43 (fun H locs ls stk => ∃ w37 : Int32, stk = [.int w37] ∧ (1 ≤ w37.toInt) ∧ va_P (dC, dI) vwCl (va_pl L f) H ∧ va_D A (va_pl L f) ∧ va_S A s.heap H locs ∧ lv_has ls 6 [(2, .ref b30), (0, .ref h0), (1, .ref h1)]) ?_ (fun hj38 => ?_)
  · intro H locs ls stk hI
    refine Exists.elim hI (fun w37 hE90 => tn_6 hE90 (fun e90 rw37 hP hD hS hl => ?_))
    clear hE90 hI; subst e90
    refine lv_istore_n (lv' := [(3, .int w37), (2, .ref b30), (0, .ref h0), (1, .ref h1)]) hx hb dX9_load_43 rfl hl (by decide) rfl (fun ls hl => ?_)
    refine lv_iconst (v := 0) hx hb dX9_load_44 (by decide) ?_
    refine lv_aload_n hx hb dX9_load_45 rfl (lv_at hl 3 rfl) ?_
    refine va_getN (D := (dC, dI)) (ci := 5) (v := .ref (ρ h1 0)) (C := RX5) (T := TX5) (N := 17) hx hb hts hfX5 hown hK hP q26 eq26 rfl 0 (by decide) (va_Nw.use rfl (hN.1 (.fieldLinkNest RX9 55 "ColdShips$Ship" "tank" "LColdShips$Tank;" "ColdShips") nzw_21)) (fun _ h9 => h9) rfl dX9_load_46 ?_
    refine pz_calli (va_runV (As := []) (rest := [.int 0]) ⟨hx, hb, hml, hown, hts⟩ (t_X7_top l dC dI _ Ω κ τ ν ρ L f hG hT (ρ h1 0) y18) (cwV 0 hts gX9_load_X7_top rfl rfl rfl ⟨rfl, pd_X7_top⟩ ⟨Nat.le_of_ble_eq_true rfl, Nat.le_of_ble_eq_true rfl⟩) ⟨pz_blind, va_recv hK hP (ci := 7) (q0 := q36) rfl eq36, pz_pre hP hK hD hN⟩ rfl rfl hl.1 rfl (lv_room (Nat.le_of_ble_eq_true rfl)) dX9_load_49 ⟨Nat.le_of_ble_eq_true rfl, Nat.le_of_ble_eq_true rfl⟩) (fun r39 hw40 => ?_)
    obtain ⟨hw40r, hw40p⟩ := hw40
    refine lv_aload_n hx hb dX9_load_52 rfl (lv_at hl 3 rfl) ?_
    refine va_getN (D := (dC, dI)) (ci := 5) (v := .ref (ρ h1 0)) (C := RX5) (T := TX5) (N := 17) hx hb hts hfX5 hown hK hP q26 eq26 rfl 0 (by decide) (va_Nw.use rfl (hN.1 (.fieldLinkNest RX9 55 "ColdShips$Ship" "tank" "LColdShips$Tank;" "ColdShips") nzw_21)) (fun _ h9 => h9) rfl dX9_load_53 ?_
    refine va_getN (D := (dC, dI)) (ci := 7) (v := .int o35_x1) (C := RX7) (T := TX7) (N := 7) hx hb hts hfX7 hown hK hP q36 eq36 rfl 1 (by decide) (va_Nw.use rfl (hN.1 (.fieldLinkNest RX9 183 "ColdShips$Tank" "gas" "I" "ColdShips") nzw_14)) (fun _ h9 => h9) rfl dX9_load_56 ?_
    refine lv_isub hx hb dX9_load_59 ?_
    refine lv_topi (fun z41 ez41 => ?_)
    refine va_mmax hx hb (by rw [hml]; exact hl.1.symm) hown (hts (.methodLink RX9 175 Lib.Math.max.name) wa_486) (hts (.static Lib.Math.max.name) wa_70) (hts (.initialized "java/lang/Math") wa_71) (hts (.code Lib.Math.max.name Lib.Math.max.code 2 (some .int)) wa_72) (Nat.le_of_ble_eq_true rfl) (Nat.le_of_ble_eq_true rfl) (Nat.le_of_ble_eq_true rfl) (Nat.le_of_ble_eq_true rfl) dX9_load_60 ?_
    refine lv_topi (fun z42 ez42 => ?_)
    have iz42 := zi_max ez42 (show (0 : Int32).toInt = 0 from rfl) (rfl : z41.toInt = _)
    refine lv_istore (lv' := [(4, .int z42), (3, .int w37), (2, .ref b30), (0, .ref h0), (1, .ref h1)]) hx hb dX9_load_63 hl (by decide) rfl (fun ls hl => ?_)
    refine lv_iload_n hx hb dX9_load_65 rfl (lv_at hl 1 rfl) ?_
    refine lv_aload_n hx hb dX9_load_66 rfl (lv_at hl 4 rfl) ?_
    refine va_getN (D := (dC, dI)) (ci := 5) (v := .ref (ρ h1 8)) (C := RX5) (T := TX5) (N := 17) hx hb hts hfX5 hown hK hP q26 eq26 rfl 8 (by decide) (va_Nw.use rfl (hN.1 (.fieldLinkNest RX9 97 "ColdShips$Ship" "orderWhats" "[I" "ColdShips") nzw_37)) (fun _ h9 => h9) rfl dX9_load_67 ?_
    refine lv_iconst (v := 0) hx hb dX9_load_70 (by decide) ?_
    refine tpk_20 hT y20 y20n (fun g44 hf_o43 => ?_)
    refine tpk_pos (tp_in hG y20 (by decide)) hf_o43 (fun q45 eq45 => ?_)
    refine va_iald hx hb hK hP q45 0 eq45 rfl (vp_in_iff.mpr ⟨by decide, by decide⟩) dX9_load_71 ?_
    refine lv_topi (fun z46 ez46 => ?_)
    refine va_mmin hx hb (by rw [hml]; exact hl.1.symm) hown (hts (.methodLink RX9 186 Lib.Math.min.name) wa_487) (hts (.static Lib.Math.min.name) wa_434) (hts (.initialized "java/lang/Math") wa_71) (hts (.code Lib.Math.min.name Lib.Math.min.code 2 (some .int)) wa_435) (Nat.le_of_ble_eq_true rfl) (Nat.le_of_ble_eq_true rfl) (Nat.le_of_ble_eq_true rfl) (Nat.le_of_ble_eq_true rfl) dX9_load_72 ?_
    refine lv_topi (fun z47 ez47 => ?_)
    have iz47 := zi_min ez47 (rfl : w37.toInt = _) (rfl : z46.toInt = _)
    refine lv_aload_n hx hb dX9_load_75 rfl (lv_at hl 2 rfl) ?_
    refine tgk_9 hG hb31t (fun y48 y48n y49 y49n => ?_)
    refine tpk_9 hT hb31t (fun o50_x0 o50_x1 o50_x2 o50_x3 o50_x4 hf_o50 ro50_0 => ?_)
    refine tpk_pos (tp_in hG hb31t (by decide)) hf_o50 (fun q51 eq51 => ?_)
    refine va_getN (D := (dC, dI)) (ci := 8) (v := .int o50_x0) (C := RX8) (T := TX8) (N := 7) hx hb hts hfX8 hown hK hP q51 eq51 rfl 0 (by decide) (va_Nw.use rfl (hN.1 (.fieldLinkNest RX9 189 "ColdShips$Terminal" "store" "I" "ColdShips") nzw_5)) (fun _ h9 => h9) rfl dX9_load_76 ?_
    refine lv_iload hx hb dX9_load_79 (lv_at hl 0 rfl) ?_
    refine va_mmin hx hb (by rw [hml]; exact hl.1.symm) hown (hts (.methodLink RX9 186 Lib.Math.min.name) wa_487) (hts (.static Lib.Math.min.name) wa_434) (hts (.initialized "java/lang/Math") wa_71) (hts (.code Lib.Math.min.name Lib.Math.min.code 2 (some .int)) wa_435) (Nat.le_of_ble_eq_true rfl) (Nat.le_of_ble_eq_true rfl) (Nat.le_of_ble_eq_true rfl) (Nat.le_of_ble_eq_true rfl) dX9_load_81 ?_
    refine lv_topi (fun z52 ez52 => ?_)
    have iz52 := zi_min ez52 (rfl : o50_x0.toInt = _) (rfl : z42.toInt = _)
    refine va_mmin hx hb (by rw [hml]; exact hl.1.symm) hown (hts (.methodLink RX9 186 Lib.Math.min.name) wa_487) (hts (.static Lib.Math.min.name) wa_434) (hts (.initialized "java/lang/Math") wa_71) (hts (.code Lib.Math.min.name Lib.Math.min.code 2 (some .int)) wa_435) (Nat.le_of_ble_eq_true rfl) (Nat.le_of_ble_eq_true rfl) (Nat.le_of_ble_eq_true rfl) (Nat.le_of_ble_eq_true rfl) dX9_load_84 ?_
    refine lv_topi (fun z53 ez53 => ?_)
    have iz53 := zi_min ez53 (rfl : z47.toInt = _) (rfl : z52.toInt = _)
    refine lv_istore (lv' := [(5, .int z53), (4, .int z42), (3, .int w37), (2, .ref b30), (0, .ref h0), (1, .ref h1)]) hx hb dX9_load_87 hl (by decide) rfl (fun ls hl => ?_)
    refine lv_aload_n hx hb dX9_load_89 rfl (lv_at hl 3 rfl) ?_
    refine lv_dup hx hb dX9_load_90 rfl ?_
    refine va_getN (D := (dC, dI)) (ci := 8) (v := .int o50_x0) (C := RX8) (T := TX8) (N := 7) hx hb hts hfX8 hown hK hP q51 eq51 rfl 0 (by decide) (va_Nw.use rfl (hN.1 (.fieldLinkNest RX9 189 "ColdShips$Terminal" "store" "I" "ColdShips") nzw_5)) (fun _ h9 => h9) rfl dX9_load_91 ?_
    refine lv_iload hx hb dX9_load_94 (lv_at hl 0 rfl) ?_
    refine lv_isub hx hb dX9_load_96 ?_
    refine lv_topi (fun z54 ez54 => ?_)
    refine va_putN (D := (dC, dI)) (ci := 8) (v := .int z54) (ty := .int) (C := RX8) (T := TX8) (N := 7) hx hb hts hfX8 tyX8 tyX8_ok nmX8 hown hK hP hD hS q51 eq51 rfl 0 (by decide) (va_Nw.use rfl (hN.1 (.fieldLinkNest RX9 189 "ColdShips$Terminal" "store" "I" "ColdShips") nzw_5)) (fun _ h9 => h9) rfl (tyX8_ok 0 (by decide)) rfl rfl (Nat.le_of_ble_eq_true rfl) dX9_load_97 (tp_k (.inr (8, [.int z54, .int o50_x1, .int o50_x2, .int o50_x3, .int o50_x4, .ref (ρ b30 5), .ref (ρ b30 6)])) hD (tp_in hG hb31t (by decide)) eq51 (fun f55 H locs hP hD hS g57 k56 => ?_))
    have hT := hT.up hb31t g57 k56 ⟨_, _, _, _, _, rfl, ro50_0⟩
    have hR := hR.up hb31t (by decide) k56
    refine lv_aload_n hx hb dX9_load_100 rfl (lv_at hl 5 rfl) ?_
    have hf_58 : f55 h1 = .inr (5, [.ref (ρ h1 0), .int o25_x1, .int o25_x2, .int o25_x3, .int o25_x4, .int o25_x5, .int o25_x6, .ref (ρ h1 7), .ref (ρ h1 8), .ref (ρ h1 9), .int o25_x10, .int o25_x11, .int o25_x12, .ref (ρ h1 13), .int o25_x14, .ref (ρ h1 15), .ref (ρ h1 16)]) := (k56 _ (tp_ne ht_h1 hb31t (by decide))).trans hf_o25
    refine tpk_pos (tp_in hG ht_h1 (by decide)) hf_58 (fun q59 eq59 => ?_)
    refine va_getN (D := (dC, dI)) (ci := 5) (v := .ref (ρ h1 0)) (C := RX5) (T := TX5) (N := 17) hx hb hts hfX5 hown hK hP q59 eq59 rfl 0 (by decide) (va_Nw.use rfl (hN.1 (.fieldLinkNest RX9 55 "ColdShips$Ship" "tank" "LColdShips$Tank;" "ColdShips") nzw_21)) (fun _ h9 => h9) rfl dX9_load_101 ?_
    refine lv_aload_n hx hb dX9_load_104 rfl (lv_at hl 5 rfl) ?_
    refine va_getN (D := (dC, dI)) (ci := 5) (v := .int o25_x2) (C := RX5) (T := TX5) (N := 17) hx hb hts hfX5 hown hK hP q59 eq59 rfl 2 (by decide) (va_Nw.use rfl (hN.1 (.fieldLinkNest RX9 114 "ColdShips$Ship" "where" "I" "ColdShips") nzw_27)) (fun _ h9 => h9) rfl dX9_load_105 ?_
    refine lv_iload hx hb dX9_load_108 (lv_at hl 0 rfl) ?_
    have hf_60 : f55 (ρ h1 0) = .inr (7, [.int o35_x0, .int o35_x1, .int o35_x2, .int o35_x3, .ref (ρ (ρ h1 0) 4), .ref (ρ (ρ h1 0) 5), .ref (ρ (ρ h1 0) 6)]) := (k56 _ (tp_ne y18 hb31t (by decide))).trans hf_o35
    refine tpk_pos (tp_in hG y18 (by decide)) hf_60 (fun q61 eq61 => ?_)
    have hFc := tp_fr hD hS hA
    refine va_callv (va_runV (As := [.int o25_x2, .int z53]) (rest := []) ⟨hx, hb, hml, hown, hts⟩ (t_X7_fill l dC dI _ Ω κ τ ν ρ L f55 hG hT (ρ h1 0) o25_x2 z53 y18 (by first | decide | omega)) (cwV 2 hts gX9_load_X7_fill rfl rfl rfl ⟨rfl, pd_X7_fill⟩ ⟨Nat.le_of_ble_eq_true rfl, Nat.le_of_ble_eq_true rfl⟩) ⟨pz_blind, va_recv hK hP (ci := 7) (q0 := q61) rfl eq61, pz_pre hP hK hD hN⟩ rfl rfl hl.1 rfl (lv_room (Nat.le_of_ble_eq_true rfl)) dX9_load_110 ⟨Nat.le_of_ble_eq_true rfl, Nat.le_of_ble_eq_true rfl⟩) hS (fun q _ h => hFc q h) hFc (fun f64 t H1 locs ht hvm hw63 hB hz1 hk1 hS => ?_)
    refine tn_3 hw63 (fun hT hF65 hw63p => ?_); clear hw63
    have hR := hR.then hF65 (by decide)
    have hP := hB.1; rw [ht] at hP; have hD := tp_ad f64 hD; clear hB hFc hz1 hk1; subst ht; generalize t.heap = H at hP hS ⊢
    refine lv_aload_n hx hb dX9_load_113 rfl (lv_at hl 5 rfl) ?_
    have hf_66 : f64 h1 = .inr (5, [.ref (ρ h1 0), .int o25_x1, .int o25_x2, .int o25_x3, .int o25_x4, .int o25_x5, .int o25_x6, .ref (ρ h1 7), .ref (ρ h1 8), .ref (ρ h1 9), .int o25_x10, .int o25_x11, .int o25_x12, .ref (ρ h1 13), .int o25_x14, .ref (ρ h1 15), .ref (ρ h1 16)]) := (hF65 _ (by rw [ht_h1]; decide)).trans hf_58
    refine tpk_pos (tp_in hG ht_h1 (by decide)) hf_66 (fun q67 eq67 => ?_)
    refine va_getN (D := (dC, dI)) (ci := 5) (v := .ref (ρ h1 9)) (C := RX5) (T := TX5) (N := 17) hx hb hts hfX5 hown hK hP q67 eq67 rfl 9 (by decide) (va_Nw.use rfl (hN.1 (.fieldLinkNest RX9 103 "ColdShips$Ship" "book" "[J" "ColdShips") nzw_38)) (fun _ h9 => h9) rfl dX9_load_114 ?_
    refine lv_iconst (v := 0) hx hb dX9_load_117 (by decide) ?_
    refine lv_dup2_11 hx hb dX9_load_118 rfl rfl ?_
    refine tpk_21 hT y21 y21n (fun g69 hf_o68 => ?_)
    refine tpk_pos (tp_in hG y21 (by decide)) hf_o68 (fun q70 eq70 => ?_)
    refine va_lald hx hb hK hP q70 1 eq70 rfl (vp_in_iff.mpr ⟨by decide, by decide⟩) dX9_load_119 ?_
    refine lv_topl (fun z71 ez71 => ?_)
    refine lv_iload hx hb dX9_load_120 (lv_at hl 0 rfl) ?_
    refine lv_i2l hx hb dX9_load_122 rfl ?_
    refine lv_ladd hx hb dX9_load_123 ?_
    refine lv_topl (fun z72 ez72 => ?_)
    refine va_last hx hb hK hP hD hS q70 1 eq70 rfl (vp_in_iff.mpr ⟨by decide, by decide⟩) dX9_load_124 (tp_k (.inl (κ 1, 4, .inr (.inl (vp_updL g69 (0 : Int32).toNatClampNeg z72)))) hD (tp_in hG y21 (by decide)) eq70 (fun f73 H locs hP hD hS g75 k74 => ?_))
    have hT := hT.up y21 g75 k74 (tp_o21 y21n)
    have hR := hR.up y21 (by decide) k74
    generalize (vp_updL g69 (0 : Int32).toNatClampNeg z72) = g76 at g75
    refine lv_aload_n hx hb dX9_load_125 rfl (lv_at hl 5 rfl) ?_
    have hf_77 : f73 h1 = .inr (5, [.ref (ρ h1 0), .int o25_x1, .int o25_x2, .int o25_x3, .int o25_x4, .int o25_x5, .int o25_x6, .ref (ρ h1 7), .ref (ρ h1 8), .ref (ρ h1 9), .int o25_x10, .int o25_x11, .int o25_x12, .ref (ρ h1 13), .int o25_x14, .ref (ρ h1 15), .ref (ρ h1 16)]) := (k74 _ (tp_ne ht_h1 y21 (by decide))).trans hf_66
    refine tpk_pos (tp_in hG ht_h1 (by decide)) hf_77 (fun q78 eq78 => ?_)
    refine va_getN (D := (dC, dI)) (ci := 5) (v := .ref (ρ h1 8)) (C := RX5) (T := TX5) (N := 17) hx hb hts hfX5 hown hK hP q78 eq78 rfl 8 (by decide) (va_Nw.use rfl (hN.1 (.fieldLinkNest RX9 97 "ColdShips$Ship" "orderWhats" "[I" "ColdShips") nzw_37)) (fun _ h9 => h9) rfl dX9_load_126 ?_
    refine lv_iconst (v := 0) hx hb dX9_load_129 (by decide) ?_
    refine lv_dup2_11 hx hb dX9_load_130 rfl rfl ?_
    refine tpk_20 hT y20 y20n (fun g80 hf_o79 => ?_)
    refine tpk_pos (tp_in hG y20 (by decide)) hf_o79 (fun q81 eq81 => ?_)
    refine va_iald hx hb hK hP q81 0 eq81 rfl (vp_in_iff.mpr ⟨by decide, by decide⟩) dX9_load_131 ?_
    refine lv_topi (fun z82 ez82 => ?_)
    refine lv_iload hx hb dX9_load_132 (lv_at hl 0 rfl) ?_
    refine lv_isub hx hb dX9_load_134 ?_
    refine lv_topi (fun z83 ez83 => ?_)
    refine va_iast hx hb hK hP hD hS q81 0 eq81 rfl (vp_in_iff.mpr ⟨by decide, by decide⟩) dX9_load_135 (tp_k (.inl (κ 0, 20, .inl (upd g80 (0 : Int32).toNatClampNeg z83))) hD (tp_in hG y20 (by decide)) eq81 (fun f84 H locs hP hD hS g86 k85 => ?_))
    have hT := hT.up y20 g86 k85 (tp_o20 y20n)
    have hR := hR.up y20 (by decide) k85
    generalize (upd g80 (0 : Int32).toNatClampNeg z83) = g87 at g86
    refine lv_iload hx hb dX9_load_136 (lv_at hl 0 rfl) ?_
    refine lv_if_eq (tgt := 150) hx hb dX9_load_138 (by decide) (fun c88 => ?_) (fun c88 => ?_)
    · have ic88 : z53.toInt = 0 := zi_eq rfl rfl c88
      refine lv_aload_n hx hb dX9_load_150 rfl (lv_at hl 5 rfl) ?_
      have hf_89 : f84 h1 = .inr (5, [.ref (ρ h1 0), .int o25_x1, .int o25_x2, .int o25_x3, .int o25_x4, .int o25_x5, .int o25_x6, .ref (ρ h1 7), .ref (ρ h1 8), .ref (ρ h1 9), .int o25_x10, .int o25_x11, .int o25_x12, .ref (ρ h1 13), .int o25_x14, .ref (ρ h1 15), .ref (ρ h1 16)]) := (k85 _ (tp_ne ht_h1 y20 (by decide))).trans hf_77
      refine tpk_pos (tp_in hG ht_h1 (by decide)) hf_89 (fun q90 eq90 => ?_)
      have hFc := tp_fr hD hS hA
      refine va_callv (va_runV (As := []) (rest := []) ⟨hx, hb, hml, hown, hts⟩ (t_X5_endOrder l dC dI _ Ω κ τ ν ρ L f84 hG hT h1 ht_h1) (cwV 0 hts gX9_load_X5_endOrder rfl rfl rfl ⟨rfl, pd_X5_endOrder⟩ ⟨Nat.le_of_ble_eq_true rfl, Nat.le_of_ble_eq_true rfl⟩) ⟨pz_blind, va_recv hK hP (ci := 5) (q0 := q90) rfl eq90, pz_pre hP hK hD hN⟩ rfl rfl hl.1 rfl (lv_room (Nat.le_of_ble_eq_true rfl)) dX9_load_151 ⟨Nat.le_of_ble_eq_true rfl, Nat.le_of_ble_eq_true rfl⟩) hS (fun q _ h => hFc q h) hFc (fun f93 t H1 locs ht hvm hw92 hB hz1 hk1 hS => ?_)
      refine tn_3 hw92 (fun hT hF94 hw92p => ?_); clear hw92
      have hR := hR.then hF94 (by decide)
      have hP := hB.1; rw [ht] at hP; have hD := tp_ad f93 hD; clear hB hFc hz1 hk1; subst ht; generalize t.heap = H at hP hS ⊢
      exact W.vret hx hb hr (fun t ht hW => ⟨⟨f93, rfl, ⟨hT, hR, trivial⟩, by rw [ht]; exact hP, va_K.moved hW.alike hK, hD⟩, hS.F ht⟩) hS.2.2 dX9_load_154
    · have ic88 : z53.toInt ≠ 0 := zi_eqf rfl rfl c88
      refine lv_aload_n hx hb dX9_load_141 rfl (lv_at hl 5 rfl) ?_
      have hf_95 : f84 h1 = .inr (5, [.ref (ρ h1 0), .int o25_x1, .int o25_x2, .int o25_x3, .int o25_x4, .int o25_x5, .int o25_x6, .ref (ρ h1 7), .ref (ρ h1 8), .ref (ρ h1 9), .int o25_x10, .int o25_x11, .int o25_x12, .ref (ρ h1 13), .int o25_x14, .ref (ρ h1 15), .ref (ρ h1 16)]) := (k85 _ (tp_ne ht_h1 y20 (by decide))).trans hf_77
      refine tpk_pos (tp_in hG ht_h1 (by decide)) hf_95 (fun q96 eq96 => ?_)
      refine va_getN (D := (dC, dI)) (ci := 5) (v := .ref (ρ h1 8)) (C := RX5) (T := TX5) (N := 17) hx hb hts hfX5 hown hK hP q96 eq96 rfl 8 (by decide) (va_Nw.use rfl (hN.1 (.fieldLinkNest RX9 97 "ColdShips$Ship" "orderWhats" "[I" "ColdShips") nzw_37)) (fun _ h9 => h9) rfl dX9_load_142 ?_
      refine lv_iconst (v := 0) hx hb dX9_load_145 (by decide) ?_
      refine tpk_pos (tp_in hG y20 (by decide)) g86 (fun q97 eq97 => ?_)
      refine va_iald hx hb hK hP q97 0 eq97 rfl (vp_in_iff.mpr ⟨by decide, by decide⟩) dX9_load_146 ?_
      refine lv_topi (fun z98 ez98 => ?_)
      refine lv_if_ne (tgt := 154) hx hb dX9_load_147 (by decide) (fun c99 => ?_) (fun c99 => ?_)
      · have ic99 : z98.toInt ≠ 0 := zi_ne rfl rfl c99
        exact W.vret hx hb hr (fun t ht hW => ⟨⟨f84, rfl, ⟨hT, hR, trivial⟩, by rw [ht]; exact hP, va_K.moved hW.alike hK, hD⟩, hS.F ht⟩) hS.2.2 dX9_load_154
      · have ic99 : z98.toInt = 0 := zi_nef rfl rfl c99
        refine lv_aload_n hx hb dX9_load_150 rfl (lv_at hl 5 rfl) ?_
        have hFc := tp_fr hD hS hA
        refine va_callv (va_runV (As := []) (rest := []) ⟨hx, hb, hml, hown, hts⟩ (t_X5_endOrder l dC dI _ Ω κ τ ν ρ L f84 hG hT h1 ht_h1) (cwV 0 hts gX9_load_X5_endOrder rfl rfl rfl ⟨rfl, pd_X5_endOrder⟩ ⟨Nat.le_of_ble_eq_true rfl, Nat.le_of_ble_eq_true rfl⟩) ⟨pz_blind, va_recv hK hP (ci := 5) (q0 := q96) rfl eq96, pz_pre hP hK hD hN⟩ rfl rfl hl.1 rfl (lv_room (Nat.le_of_ble_eq_true rfl)) dX9_load_151 ⟨Nat.le_of_ble_eq_true rfl, Nat.le_of_ble_eq_true rfl⟩) hS (fun q _ h => hFc q h) hFc (fun f102 t H1 locs ht hvm hw101 hB hz1 hk1 hS => ?_)
        refine tn_3 hw101 (fun hT hF103 hw101p => ?_); clear hw101
        have hR := hR.then hF103 (by decide)
        have hP := hB.1; rw [ht] at hP; have hD := tp_ad f102 hD; clear hB hFc hz1 hk1; subst ht; generalize t.heap = H at hP hS ⊢
        exact W.vret hx hb hr (fun t ht hW => ⟨⟨f102, rfl, ⟨hT, hR, trivial⟩, by rw [ht]; exact hP, va_K.moved hW.alike hK, hD⟩, hS.F ht⟩) hS.2.2 dX9_load_154
  · refine lv_icmp_le (tgt := 39) hx hb dX9_load_23 (by decide) (fun c104 => ?_) (fun c104 => ?_)
    · have ic104 : o35_x3.toInt ≤ 200 := zi_le rfl rfl c104
      refine lv_aload_n hx hb dX9_load_39 rfl (lv_at hl 0 rfl) ?_
      refine tgk_9 hG hb31t (fun y105 y105n y106 y106n => ?_)
      refine tpk_9 hT hb31t (fun o107_x0 o107_x1 o107_x2 o107_x3 o107_x4 hf_o107 ro107_0 => ?_)
      refine tpk_pos (tp_in hG hb31t (by decide)) hf_o107 (fun q108 eq108 => ?_)
      have ro107_0 := tp_hu ro107_0
      refine va_getN (D := (dC, dI)) (ci := 8) (v := .int o107_x2) (C := RX8) (T := TX8) (N := 7) hx hb hts hfX8 hown hK hP q108 eq108 rfl 2 (by decide) (va_Nw.use rfl (hN.1 (.fieldLinkNest RX9 172 "ColdShips$Terminal" "rate" "I" "ColdShips") nzw_8)) (fun _ h9 => h9) rfl dX9_load_40 ?_
      exact hj38 _ _ _ _ ⟨o107_x2, rfl, (by omega), hP, hD, hS, lv_sub hl [0, 1, 2] rfl⟩
    · have ic104 : o35_x3.toInt > 200 := zi_lef rfl rfl c104
      refine lv_iconst (v := 1) hx hb dX9_load_26 (by decide) ?_
      refine lv_aload_n hx hb dX9_load_27 rfl (lv_at hl 0 rfl) ?_
      refine tgk_9 hG hb31t (fun y109 y109n y110 y110n => ?_)
      refine tpk_9 hT hb31t (fun o111_x0 o111_x1 o111_x2 o111_x3 o111_x4 hf_o111 ro111_0 => ?_)
      refine tpk_pos (tp_in hG hb31t (by decide)) hf_o111 (fun q112 eq112 => ?_)
      have ro111_0 := tp_hu ro111_0
      refine va_getN (D := (dC, dI)) (ci := 8) (v := .int o111_x2) (C := RX8) (T := TX8) (N := 7) hx hb hts hfX8 hown hK hP q112 eq112 rfl 2 (by decide) (va_Nw.use rfl (hN.1 (.fieldLinkNest RX9 172 "ColdShips$Terminal" "rate" "I" "ColdShips") nzw_8)) (fun _ h9 => h9) rfl dX9_load_28 ?_
      refine lv_iconst (v := 4) hx hb dX9_load_31 (by decide) ?_
      refine lv_idiv hx hb dX9_load_32 (by decide) ?_
      refine lv_topi (fun z113 ez113 => ?_)
      have iz113 : z113.toInt = o111_x2.toInt / 4 := zi_div ez113 rfl (show (4 : Int32).toInt = 4 from rfl) (by omega) (by omega)
      refine va_mmax hx hb (by rw [hml]; exact hl.1.symm) hown (hts (.methodLink RX9 175 Lib.Math.max.name) wa_486) (hts (.static Lib.Math.max.name) wa_70) (hts (.initialized "java/lang/Math") wa_71) (hts (.code Lib.Math.max.name Lib.Math.max.code 2 (some .int)) wa_72) (Nat.le_of_ble_eq_true rfl) (Nat.le_of_ble_eq_true rfl) (Nat.le_of_ble_eq_true rfl) (Nat.le_of_ble_eq_true rfl) dX9_load_33 ?_
      refine lv_topi (fun z114 ez114 => ?_)
      have iz114 := zi_max ez114 (show (1 : Int32).toInt = 1 from rfl) (rfl : z113.toInt = _)
      refine lv_goto (tgt := 43) hx hb dX9_load_36 (by decide) ?_
      exact hj38 _ _ _ _ ⟨z114, rfl, (by omega), hP, hD, hS, lv_sub hl [0, 1, 2] rfl⟩
set_option maxHeartbeats 4000000 in
set_option maxRecDepth 100000 in
theorem t_X9_keepLanding (l : Launch) (dC : Nat → ClassId) (dI : Nat → Nat → Nat) (sz : Nat) (Ω : Nat → Nat → (Nat → Nat) → va_E → Prop) (κ : Nat → ClassId) (τ ν : Nat → Nat) (ρ : Nat → Nat → Nat) (L : List Nat) (f : Nat → va_E) (hG : tp_G τ ν ρ L) (hT : tp_T Ω κ τ ν ρ f) (h0 : Nat) (a : Int32) (h1 : Nat) (ht_h0 : τ h0 = 10) (ht_h1 : τ h1 = 6) : Met l yX9_keepLanding wqX9_keepLanding ({ frames := 5, cells := 0, slots := 0, locals := 1600 }) (va_Pc [.ref h0, .int a, .ref h1] (pz_B dC dI (tp_K κ) (va_pl L f) sz)) (va_Qv (fun (f1 : Nat → va_E) => tp_T Ω κ τ ν ρ f1 ∧ tp_F τ [5, 21] f f1 ∧ tp_X τ ρ (fun n => n = 17) f f1) (fun (f1 : Nat → va_E) (t : State) => pz_E dC dI (tp_K κ) (va_A (va_pl L f) sz) (va_pl L f1) t) (va_A (va_pl L f) sz)) 0 0 (va_A (va_pl L f) sz) := by
  refine Met.ofW (cc := cX9_keepLanding) (maxL := 5) (ret := none) (by decide) rfl ?_
  intro p e s m args below meth c s₁ B hml hv
  obtain ⟨rfl, hsz, hP, hK, hD0, hN⟩ := hv
  have hx := B.exec
  have hb := B.bytes
  have hr := B.returns
  have hts := fun (w : Cond) (h : w ∈ WALL) => atoms_spec (ws := wqX9_keepLanding) B.pre w (List.mem_cons_of_mem _ h)
  have hown : s.vm.findClass RX9 = some m.cls := findClass_of_methodNamed B.named
  have hlocks := B.notSynchronized
  subst hsz
  have hD := hD0.self (sz := s.heap.size)
  generalize hAe : va_A (va_pl L f) s.heap.size = A at hD ⊢
  have hA : ∀ q : Nat, s.heap.size ≤ q → A q := fun q h => by rw [← hAe]; exact Or.inr h
  have hS : va_S A s.heap s.heap [] := va_S.rf
  have hR : tp_F τ [5, 21] f f := tp_F.rf
  have hX : tp_X τ ρ (fun n => n = 17) f f := tp_X.rf
  have hl := lv_entry ([.ref h0, .int a, .ref h1]) (n := 5) (Nat.le_of_ble_eq_true rfl)
  rw [lg_entry_eq]
  generalize (lg_sl ([.ref h0, .int a, .ref h1]) ++ List.replicate (5 - (lg_sl ([.ref h0, .int a, .ref h1])).length) Slot.unset).toArray = ls at hl ⊢
  have hl : lv_has ls 5 [(0, .ref h0), (1, .int a), (2, .ref h1)] := hl
  refine lv_aload_n hx hb dX9_keepLanding_0 rfl (lv_at hl 2 rfl) ?_
  refine tgk_6 hG ht_h1 (fun y1 y2 y2n y3 y3n y4 y4n y5 y5n y6 y6n y7 y7n => ?_)
  refine tpk_6 hT ht_h1 (fun o8_x1 o8_x2 o8_x3 o8_x4 o8_x5 o8_x6 o8_x10 o8_x11 o8_x12 o8_x14 hf_o8 ro8_0 ro8_1 ro8_2 => ?_)
  refine tpk_pos (tp_in hG ht_h1 (by decide)) hf_o8 (fun q9 eq9 => ?_)
  refine va_getN (D := (dC, dI)) (ci := 5) (v := .int o8_x12) (C := RX5) (T := TX5) (N := 17) hx hb hts hfX5 hown hK hP q9 eq9 rfl 12 (by decide) (va_Nw.use rfl (hN.1 (.fieldLinkNest RX9 211 "ColdShips$Ship" "landTons" "I" "ColdShips") nzw_42)) (fun _ h9 => h9) rfl dX9_keepLanding_1 ?_
  refine tp_join 21 (fun H locs ls stk => ∃ f12 : Nat → va_E, ∃ w10 : Int32, stk = [.int w10] ∧ tp_T Ω κ τ ν ρ f12 ∧ tp_F τ [5, 21] f f12 ∧ tp_X τ ρ (fun n => n = 17) f f12 ∧ va_P (dC, dI) vwCl (va_pl L f12) H ∧ va_D A (va_pl L f12) ∧ va_S A s.heap H locs ∧ lv_has ls 5 [(0, .ref h0), (1, .int a), (2, .ref h1)]) ?_ (fun hj11 => ?_)
  · intro H locs ls stk hI
    refine Exists.elim hI (fun f12 hE90 => Exists.elim hE90 (fun w10 hE91 => tn_8 hE91 (fun e90 hT hR hX hP hD hS hl => ?_)))
    clear hE91 hE90 hI; subst e90
    refine lv_istore_n (lv' := [(3, .int w10), (0, .ref h0), (1, .int a), (2, .ref h1)]) hx hb dX9_keepLanding_21 rfl hl (by decide) rfl (fun ls hl => ?_)
    refine lv_iload_n hx hb dX9_keepLanding_22 rfl (lv_at hl 0 rfl) ?_
    refine lv_iconst (v := (-1)) hx hb dX9_keepLanding_23 (by decide) ?_
    refine lv_icmp_ne (tgt := 28) hx hb dX9_keepLanding_24 (by decide) (fun c13 => ?_) (fun c13 => ?_)
    · have ic13 : w10.toInt ≠ (-1) := zi_ne rfl rfl c13
      refine lv_aload_n hx hb dX9_keepLanding_28 rfl (lv_at hl 1 rfl) ?_
      have ⟨y14, y14l⟩ := tpg_10 hG ht_h0
      refine tpk_10 hT ht_h0 (fun o15_x1 o15_x2 o15_x3 hf_o15 ro15_0 ro15_1 => ?_)
      refine tpk_pos (tp_in hG ht_h0 (by decide)) hf_o15 (fun q16 eq16 => ?_)
      refine va_get (D := (dC, dI)) (ci := 9) (v := .ref (ρ h0 0)) (C := RX9) (T := TX9) (N := 4) hx hb hts hfX9 hown hK hP q16 eq16 rfl 0 (by decide) (hts (.fieldLink RX9 9 "ColdShips$Watch" "world" "LColdShips$World;") wa_114) (fun _ h9 => h9) rfl dX9_keepLanding_29 ?_
      refine tgk_11 hG y14 (fun y17 y17n y18 y18n y19 y20 y21 y22 y22m y22l y23 y23m y23l y24 y24m y24l y25 y25w y25m y25l y26 y26w y26m y26l y27 y27w y27m y27l y28 y28w y28m y28l => ?_)
      refine tpk_11 hT y14 (fun o29_x0 o29_x1 o29_x2 o29_x3 o29_x4 o29_x5 o29_x6 hf_o29 ro29_0 ro29_1 ro29_2 ro29_3 => ?_)
      refine tpk_pos (tp_in hG y14 (by decide)) hf_o29 (fun q30 eq30 => ?_)
      refine va_getN (D := (dC, dI)) (ci := 10) (v := .ref (ρ (ρ h0 0) 17)) (C := RX10) (T := TX10) (N := 19) hx hb hts hfX10 hown hK hP q30 eq30 rfl 17 (by decide) (va_Nw.use rfl (hN.1 (.fieldLinkNest RX9 214 "ColdShips$World" "landings" "LColdShips$Rows;" "ColdShips") nzw_84)) (fun _ h9 => h9) rfl dX9_keepLanding_32 ?_
      refine lv_iload_n hx hb dX9_keepLanding_35 rfl (lv_at hl 0 rfl) ?_
      refine lv_iconst (v := 0) hx hb dX9_keepLanding_36 (by decide) ?_
      refine lv_iload_n hx hb dX9_keepLanding_37 rfl (lv_at hl 2 rfl) ?_
      refine lv_i2l hx hb dX9_keepLanding_38 rfl ?_
      refine tgk_5 hG y27 (fun y31 y31n y32a y32b y32c => ?_)
      refine tpk_5 hT y27 (fun o33_x0 o33_x2 hf_o33 ro33_0 ro33_1 => ?_)
      refine tpk_pos (tp_in hG y27 (by decide)) hf_o33 (fun q34 eq34 => ?_)
      have hFc := tp_fr hD hS hA
      have ro33_0 := tp_hu ro33_0; have ro33_1 := tp_hu ro33_1
      refine va_callv (va_runV (As := [.int w10, .int 0, .long a.toInt64]) (rest := []) ⟨hx, hb, hml, hown, hts⟩ (t_X4_set l dC dI _ Ω κ τ ν ρ L f12 hG hT (ρ (ρ h0 0) 17) w10 (0) a.toInt64 y27 o33_x0 o33_x2 hf_o33) (cwV 3 hts gX9_keepLanding_X4_set rfl rfl rfl ⟨rfl, pd_X4_set⟩ ⟨Nat.le_of_ble_eq_true rfl, Nat.le_of_ble_eq_true rfl⟩) ⟨pz_blind, va_recv hK hP (ci := 4) (q0 := q34) rfl eq34, pz_pre hP hK hD hN⟩ rfl rfl hl.1 rfl (lv_room (Nat.le_of_ble_eq_true rfl)) dX9_keepLanding_39 ⟨Nat.le_of_ble_eq_true rfl, Nat.le_of_ble_eq_true rfl⟩) hS (fun q _ h => hFc q h) hFc (fun f37 t H1 locs ht hvm hw36 hB hz1 hk1 hS => ?_)
      refine tn_3 hw36 (fun hT hF38 hw36p => ?_); clear hw36
      have hR := hR.then hF38 (by decide)
      have hX := hX.fr hF38 (by decide)
      have hP := hB.1; rw [ht] at hP; have hD := tp_ad f37 hD; clear hB hFc hz1 hk1; subst ht; generalize t.heap = H at hP hS ⊢
      refine lv_aload_n hx hb dX9_keepLanding_42 rfl (lv_at hl 1 rfl) ?_
      have hf_39 : f37 h0 = .inr (9, [.ref (ρ h0 0), .int o15_x1, .int o15_x2, .int o15_x3]) := (hF38 _ (by rw [ht_h0]; decide)).trans hf_o15
      refine tpk_pos (tp_in hG ht_h0 (by decide)) hf_39 (fun q40 eq40 => ?_)
      refine va_get (D := (dC, dI)) (ci := 9) (v := .ref (ρ h0 0)) (C := RX9) (T := TX9) (N := 4) hx hb hts hfX9 hown hK hP q40 eq40 rfl 0 (by decide) (hts (.fieldLink RX9 9 "ColdShips$Watch" "world" "LColdShips$World;") wa_114) (fun _ h9 => h9) rfl dX9_keepLanding_43 ?_
      have hf_41 : f37 (ρ h0 0) = .inr (10, [.int o29_x0, .int o29_x1, .int o29_x2, .int o29_x3, .int o29_x4, .int o29_x5, .int o29_x6, .ref (ρ (ρ h0 0) 7), .ref (ρ (ρ h0 0) 8), .ref (ρ (ρ h0 0) 9), .ref (ρ (ρ h0 0) 10), .ref (ρ (ρ h0 0) 11), .ref (ρ (ρ h0 0) 12), .ref (ρ (ρ h0 0) 13), .ref (ρ (ρ h0 0) 14), .ref (ρ (ρ h0 0) 15), .ref (ρ (ρ h0 0) 16), .ref (ρ (ρ h0 0) 17), .ref (ρ (ρ h0 0) 18)]) := (hF38 _ (by rw [y14]; decide)).trans hf_o29
      refine tpk_pos (tp_in hG y14 (by decide)) hf_41 (fun q42 eq42 => ?_)
      refine va_getN (D := (dC, dI)) (ci := 10) (v := .ref (ρ (ρ h0 0) 17)) (C := RX10) (T := TX10) (N := 19) hx hb hts hfX10 hown hK hP q42 eq42 rfl 17 (by decide) (va_Nw.use rfl (hN.1 (.fieldLinkNest RX9 214 "ColdShips$World" "landings" "LColdShips$Rows;" "ColdShips") nzw_84)) (fun _ h9 => h9) rfl dX9_keepLanding_46 ?_
      refine lv_iload_n hx hb dX9_keepLanding_49 rfl (lv_at hl 0 rfl) ?_
      refine lv_iconst (v := 1) hx hb dX9_keepLanding_50 (by decide) ?_
      refine lv_aload_n hx hb dX9_keepLanding_51 rfl (lv_at hl 3 rfl) ?_
      refine tpk_6 hT ht_h1 (fun o43_x1 o43_x2 o43_x3 o43_x4 o43_x5 o43_x6 o43_x10 o43_x11 o43_x12 o43_x14 hf_o43 ro43_0 ro43_1 ro43_2 => ?_)
      refine tpk_pos (tp_in hG ht_h1 (by decide)) hf_o43 (fun q44 eq44 => ?_)
      have ro43_0 := tp_hu ro43_0
      refine va_getN (D := (dC, dI)) (ci := 5) (v := .int o43_x2) (C := RX5) (T := TX5) (N := 17) hx hb hts hfX5 hown hK hP q44 eq44 rfl 2 (by decide) (va_Nw.use rfl (hN.1 (.fieldLinkNest RX9 114 "ColdShips$Ship" "where" "I" "ColdShips") nzw_27)) (fun _ h9 => h9) rfl dX9_keepLanding_52 ?_
      refine lv_i2l hx hb dX9_keepLanding_55 rfl ?_
      have hf_45 : f37 (ρ (ρ h0 0) 17) = .inr (4, [.int o33_x0, .ref (ρ (ρ (ρ h0 0) 17) 1), .int o33_x2]) := (hF38 _ (by rw [tp_iu y27]; decide)).trans hf_o33
      refine tpk_pos (tp_in hG y27 (by decide)) hf_45 (fun q46 eq46 => ?_)
      have hFc := tp_fr hD hS hA
      refine va_callv (va_runV (As := [.int w10, .int 1, .long o43_x2.toInt64]) (rest := []) ⟨hx, hb, hml, hown, hts⟩ (t_X4_set l dC dI _ Ω κ τ ν ρ L f37 hG hT (ρ (ρ h0 0) 17) w10 (1) o43_x2.toInt64 y27 o33_x0 o33_x2 hf_45) (cwV 3 hts gX9_keepLanding_X4_set rfl rfl rfl ⟨rfl, pd_X4_set⟩ ⟨Nat.le_of_ble_eq_true rfl, Nat.le_of_ble_eq_true rfl⟩) ⟨pz_blind, va_recv hK hP (ci := 4) (q0 := q46) rfl eq46, pz_pre hP hK hD hN⟩ rfl rfl hl.1 rfl (lv_room (Nat.le_of_ble_eq_true rfl)) dX9_keepLanding_56 ⟨Nat.le_of_ble_eq_true rfl, Nat.le_of_ble_eq_true rfl⟩) hS (fun q _ h => hFc q h) hFc (fun f49 t H1 locs ht hvm hw48 hB hz1 hk1 hS => ?_)
      refine tn_3 hw48 (fun hT hF50 hw48p => ?_); clear hw48
      have hR := hR.then hF50 (by decide)
      have hX := hX.fr hF50 (by decide)
      have hP := hB.1; rw [ht] at hP; have hD := tp_ad f49 hD; clear hB hFc hz1 hk1; subst ht; generalize t.heap = H at hP hS ⊢
      refine lv_aload_n hx hb dX9_keepLanding_59 rfl (lv_at hl 1 rfl) ?_
      have hf_51 : f49 h0 = .inr (9, [.ref (ρ h0 0), .int o15_x1, .int o15_x2, .int o15_x3]) := (hF50 _ (by rw [ht_h0]; decide)).trans hf_39
      refine tpk_pos (tp_in hG ht_h0 (by decide)) hf_51 (fun q52 eq52 => ?_)
      refine va_get (D := (dC, dI)) (ci := 9) (v := .ref (ρ h0 0)) (C := RX9) (T := TX9) (N := 4) hx hb hts hfX9 hown hK hP q52 eq52 rfl 0 (by decide) (hts (.fieldLink RX9 9 "ColdShips$Watch" "world" "LColdShips$World;") wa_114) (fun _ h9 => h9) rfl dX9_keepLanding_60 ?_
      have hf_53 : f49 (ρ h0 0) = .inr (10, [.int o29_x0, .int o29_x1, .int o29_x2, .int o29_x3, .int o29_x4, .int o29_x5, .int o29_x6, .ref (ρ (ρ h0 0) 7), .ref (ρ (ρ h0 0) 8), .ref (ρ (ρ h0 0) 9), .ref (ρ (ρ h0 0) 10), .ref (ρ (ρ h0 0) 11), .ref (ρ (ρ h0 0) 12), .ref (ρ (ρ h0 0) 13), .ref (ρ (ρ h0 0) 14), .ref (ρ (ρ h0 0) 15), .ref (ρ (ρ h0 0) 16), .ref (ρ (ρ h0 0) 17), .ref (ρ (ρ h0 0) 18)]) := (hF50 _ (by rw [y14]; decide)).trans hf_41
      refine tpk_pos (tp_in hG y14 (by decide)) hf_53 (fun q54 eq54 => ?_)
      refine va_getN (D := (dC, dI)) (ci := 10) (v := .ref (ρ (ρ h0 0) 17)) (C := RX10) (T := TX10) (N := 19) hx hb hts hfX10 hown hK hP q54 eq54 rfl 17 (by decide) (va_Nw.use rfl (hN.1 (.fieldLinkNest RX9 214 "ColdShips$World" "landings" "LColdShips$Rows;" "ColdShips") nzw_84)) (fun _ h9 => h9) rfl dX9_keepLanding_63 ?_
      refine lv_iload_n hx hb dX9_keepLanding_66 rfl (lv_at hl 0 rfl) ?_
      refine lv_iconst (v := 2) hx hb dX9_keepLanding_67 (by decide) ?_
      refine lv_aload_n hx hb dX9_keepLanding_68 rfl (lv_at hl 3 rfl) ?_
      have hf_55 : f49 h1 = .inr (5, [.ref (ρ h1 0), .int o43_x1, .int o43_x2, .int o43_x3, .int o43_x4, .int o43_x5, .int o43_x6, .ref (ρ h1 7), .ref (ρ h1 8), .ref (ρ h1 9), .int o43_x10, .int o43_x11, .int o43_x12, .ref (ρ h1 13), .int o43_x14, .ref (ρ h1 15), .ref (ρ h1 16)]) := (hF50 _ (by rw [ht_h1]; decide)).trans hf_o43
      refine tpk_pos (tp_in hG ht_h1 (by decide)) hf_55 (fun q56 eq56 => ?_)
      refine va_getN (D := (dC, dI)) (ci := 5) (v := .int o43_x10) (C := RX5) (T := TX5) (N := 17) hx hb hts hfX5 hown hK hP q56 eq56 rfl 10 (by decide) (va_Nw.use rfl (hN.1 (.fieldLinkNest RX9 227 "ColdShips$Ship" "landFirst" "I" "ColdShips") nzw_40)) (fun _ h9 => h9) rfl dX9_keepLanding_69 ?_
      refine lv_i2l hx hb dX9_keepLanding_72 rfl ?_
      have hf_57 : f49 (ρ (ρ h0 0) 17) = .inr (4, [.int o33_x0, .ref (ρ (ρ (ρ h0 0) 17) 1), .int o33_x2]) := (hF50 _ (by rw [tp_iu y27]; decide)).trans hf_45
      refine tpk_pos (tp_in hG y27 (by decide)) hf_57 (fun q58 eq58 => ?_)
      have hFc := tp_fr hD hS hA
      refine va_callv (va_runV (As := [.int w10, .int 2, .long o43_x10.toInt64]) (rest := []) ⟨hx, hb, hml, hown, hts⟩ (t_X4_set l dC dI _ Ω κ τ ν ρ L f49 hG hT (ρ (ρ h0 0) 17) w10 (2) o43_x10.toInt64 y27 o33_x0 o33_x2 hf_57) (cwV 3 hts gX9_keepLanding_X4_set rfl rfl rfl ⟨rfl, pd_X4_set⟩ ⟨Nat.le_of_ble_eq_true rfl, Nat.le_of_ble_eq_true rfl⟩) ⟨pz_blind, va_recv hK hP (ci := 4) (q0 := q58) rfl eq58, pz_pre hP hK hD hN⟩ rfl rfl hl.1 rfl (lv_room (Nat.le_of_ble_eq_true rfl)) dX9_keepLanding_73 ⟨Nat.le_of_ble_eq_true rfl, Nat.le_of_ble_eq_true rfl⟩) hS (fun q _ h => hFc q h) hFc (fun f61 t H1 locs ht hvm hw60 hB hz1 hk1 hS => ?_)
      refine tn_3 hw60 (fun hT hF62 hw60p => ?_); clear hw60
      have hR := hR.then hF62 (by decide)
      have hX := hX.fr hF62 (by decide)
      have hP := hB.1; rw [ht] at hP; have hD := tp_ad f61 hD; clear hB hFc hz1 hk1; subst ht; generalize t.heap = H at hP hS ⊢
      refine lv_aload_n hx hb dX9_keepLanding_76 rfl (lv_at hl 1 rfl) ?_
      have hf_63 : f61 h0 = .inr (9, [.ref (ρ h0 0), .int o15_x1, .int o15_x2, .int o15_x3]) := (hF62 _ (by rw [ht_h0]; decide)).trans hf_51
      refine tpk_pos (tp_in hG ht_h0 (by decide)) hf_63 (fun q64 eq64 => ?_)
      refine va_get (D := (dC, dI)) (ci := 9) (v := .ref (ρ h0 0)) (C := RX9) (T := TX9) (N := 4) hx hb hts hfX9 hown hK hP q64 eq64 rfl 0 (by decide) (hts (.fieldLink RX9 9 "ColdShips$Watch" "world" "LColdShips$World;") wa_114) (fun _ h9 => h9) rfl dX9_keepLanding_77 ?_
      have hf_65 : f61 (ρ h0 0) = .inr (10, [.int o29_x0, .int o29_x1, .int o29_x2, .int o29_x3, .int o29_x4, .int o29_x5, .int o29_x6, .ref (ρ (ρ h0 0) 7), .ref (ρ (ρ h0 0) 8), .ref (ρ (ρ h0 0) 9), .ref (ρ (ρ h0 0) 10), .ref (ρ (ρ h0 0) 11), .ref (ρ (ρ h0 0) 12), .ref (ρ (ρ h0 0) 13), .ref (ρ (ρ h0 0) 14), .ref (ρ (ρ h0 0) 15), .ref (ρ (ρ h0 0) 16), .ref (ρ (ρ h0 0) 17), .ref (ρ (ρ h0 0) 18)]) := (hF62 _ (by rw [y14]; decide)).trans hf_53
      refine tpk_pos (tp_in hG y14 (by decide)) hf_65 (fun q66 eq66 => ?_)
      refine va_getN (D := (dC, dI)) (ci := 10) (v := .ref (ρ (ρ h0 0) 17)) (C := RX10) (T := TX10) (N := 19) hx hb hts hfX10 hown hK hP q66 eq66 rfl 17 (by decide) (va_Nw.use rfl (hN.1 (.fieldLinkNest RX9 214 "ColdShips$World" "landings" "LColdShips$Rows;" "ColdShips") nzw_84)) (fun _ h9 => h9) rfl dX9_keepLanding_80 ?_
      refine lv_iload_n hx hb dX9_keepLanding_83 rfl (lv_at hl 0 rfl) ?_
      refine lv_iconst (v := 3) hx hb dX9_keepLanding_84 (by decide) ?_
      refine lv_aload_n hx hb dX9_keepLanding_85 rfl (lv_at hl 3 rfl) ?_
      have hf_67 : f61 h1 = .inr (5, [.ref (ρ h1 0), .int o43_x1, .int o43_x2, .int o43_x3, .int o43_x4, .int o43_x5, .int o43_x6, .ref (ρ h1 7), .ref (ρ h1 8), .ref (ρ h1 9), .int o43_x10, .int o43_x11, .int o43_x12, .ref (ρ h1 13), .int o43_x14, .ref (ρ h1 15), .ref (ρ h1 16)]) := (hF62 _ (by rw [ht_h1]; decide)).trans hf_55
      refine tpk_pos (tp_in hG ht_h1 (by decide)) hf_67 (fun q68 eq68 => ?_)
      refine va_getN (D := (dC, dI)) (ci := 5) (v := .int o43_x11) (C := RX5) (T := TX5) (N := 17) hx hb hts hfX5 hown hK hP q68 eq68 rfl 11 (by decide) (va_Nw.use rfl (hN.1 (.fieldLinkNest RX9 230 "ColdShips$Ship" "landLast" "I" "ColdShips") nzw_41)) (fun _ h9 => h9) rfl dX9_keepLanding_86 ?_
      refine lv_i2l hx hb dX9_keepLanding_89 rfl ?_
      have hf_69 : f61 (ρ (ρ h0 0) 17) = .inr (4, [.int o33_x0, .ref (ρ (ρ (ρ h0 0) 17) 1), .int o33_x2]) := (hF62 _ (by rw [tp_iu y27]; decide)).trans hf_57
      refine tpk_pos (tp_in hG y27 (by decide)) hf_69 (fun q70 eq70 => ?_)
      have hFc := tp_fr hD hS hA
      refine va_callv (va_runV (As := [.int w10, .int 3, .long o43_x11.toInt64]) (rest := []) ⟨hx, hb, hml, hown, hts⟩ (t_X4_set l dC dI _ Ω κ τ ν ρ L f61 hG hT (ρ (ρ h0 0) 17) w10 (3) o43_x11.toInt64 y27 o33_x0 o33_x2 hf_69) (cwV 3 hts gX9_keepLanding_X4_set rfl rfl rfl ⟨rfl, pd_X4_set⟩ ⟨Nat.le_of_ble_eq_true rfl, Nat.le_of_ble_eq_true rfl⟩) ⟨pz_blind, va_recv hK hP (ci := 4) (q0 := q70) rfl eq70, pz_pre hP hK hD hN⟩ rfl rfl hl.1 rfl (lv_room (Nat.le_of_ble_eq_true rfl)) dX9_keepLanding_90 ⟨Nat.le_of_ble_eq_true rfl, Nat.le_of_ble_eq_true rfl⟩) hS (fun q _ h => hFc q h) hFc (fun f73 t H1 locs ht hvm hw72 hB hz1 hk1 hS => ?_)
      refine tn_3 hw72 (fun hT hF74 hw72p => ?_); clear hw72
      have hR := hR.then hF74 (by decide)
      have hX := hX.fr hF74 (by decide)
      have hP := hB.1; rw [ht] at hP; have hD := tp_ad f73 hD; clear hB hFc hz1 hk1; subst ht; generalize t.heap = H at hP hS ⊢
      refine lv_aload_n hx hb dX9_keepLanding_93 rfl (lv_at hl 1 rfl) ?_
      have hf_75 : f73 h0 = .inr (9, [.ref (ρ h0 0), .int o15_x1, .int o15_x2, .int o15_x3]) := (hF74 _ (by rw [ht_h0]; decide)).trans hf_63
      refine tpk_pos (tp_in hG ht_h0 (by decide)) hf_75 (fun q76 eq76 => ?_)
      refine va_get (D := (dC, dI)) (ci := 9) (v := .ref (ρ h0 0)) (C := RX9) (T := TX9) (N := 4) hx hb hts hfX9 hown hK hP q76 eq76 rfl 0 (by decide) (hts (.fieldLink RX9 9 "ColdShips$Watch" "world" "LColdShips$World;") wa_114) (fun _ h9 => h9) rfl dX9_keepLanding_94 ?_
      have hf_77 : f73 (ρ h0 0) = .inr (10, [.int o29_x0, .int o29_x1, .int o29_x2, .int o29_x3, .int o29_x4, .int o29_x5, .int o29_x6, .ref (ρ (ρ h0 0) 7), .ref (ρ (ρ h0 0) 8), .ref (ρ (ρ h0 0) 9), .ref (ρ (ρ h0 0) 10), .ref (ρ (ρ h0 0) 11), .ref (ρ (ρ h0 0) 12), .ref (ρ (ρ h0 0) 13), .ref (ρ (ρ h0 0) 14), .ref (ρ (ρ h0 0) 15), .ref (ρ (ρ h0 0) 16), .ref (ρ (ρ h0 0) 17), .ref (ρ (ρ h0 0) 18)]) := (hF74 _ (by rw [y14]; decide)).trans hf_65
      refine tpk_pos (tp_in hG y14 (by decide)) hf_77 (fun q78 eq78 => ?_)
      refine va_getN (D := (dC, dI)) (ci := 10) (v := .ref (ρ (ρ h0 0) 17)) (C := RX10) (T := TX10) (N := 19) hx hb hts hfX10 hown hK hP q78 eq78 rfl 17 (by decide) (va_Nw.use rfl (hN.1 (.fieldLinkNest RX9 214 "ColdShips$World" "landings" "LColdShips$Rows;" "ColdShips") nzw_84)) (fun _ h9 => h9) rfl dX9_keepLanding_97 ?_
      refine lv_iload_n hx hb dX9_keepLanding_100 rfl (lv_at hl 0 rfl) ?_
      refine lv_iconst (v := 4) hx hb dX9_keepLanding_101 (by decide) ?_
      refine lv_aload_n hx hb dX9_keepLanding_102 rfl (lv_at hl 3 rfl) ?_
      have hf_79 : f73 h1 = .inr (5, [.ref (ρ h1 0), .int o43_x1, .int o43_x2, .int o43_x3, .int o43_x4, .int o43_x5, .int o43_x6, .ref (ρ h1 7), .ref (ρ h1 8), .ref (ρ h1 9), .int o43_x10, .int o43_x11, .int o43_x12, .ref (ρ h1 13), .int o43_x14, .ref (ρ h1 15), .ref (ρ h1 16)]) := (hF74 _ (by rw [ht_h1]; decide)).trans hf_67
      refine tpk_pos (tp_in hG ht_h1 (by decide)) hf_79 (fun q80 eq80 => ?_)
      refine va_getN (D := (dC, dI)) (ci := 5) (v := .int o43_x12) (C := RX5) (T := TX5) (N := 17) hx hb hts hfX5 hown hK hP q80 eq80 rfl 12 (by decide) (va_Nw.use rfl (hN.1 (.fieldLinkNest RX9 211 "ColdShips$Ship" "landTons" "I" "ColdShips") nzw_42)) (fun _ h9 => h9) rfl dX9_keepLanding_103 ?_
      refine lv_i2l hx hb dX9_keepLanding_106 rfl ?_
      have hf_81 : f73 (ρ (ρ h0 0) 17) = .inr (4, [.int o33_x0, .ref (ρ (ρ (ρ h0 0) 17) 1), .int o33_x2]) := (hF74 _ (by rw [tp_iu y27]; decide)).trans hf_69
      refine tpk_pos (tp_in hG y27 (by decide)) hf_81 (fun q82 eq82 => ?_)
      have hFc := tp_fr hD hS hA
      refine va_callv (va_runV (As := [.int w10, .int 4, .long o43_x12.toInt64]) (rest := []) ⟨hx, hb, hml, hown, hts⟩ (t_X4_set l dC dI _ Ω κ τ ν ρ L f73 hG hT (ρ (ρ h0 0) 17) w10 (4) o43_x12.toInt64 y27 o33_x0 o33_x2 hf_81) (cwV 3 hts gX9_keepLanding_X4_set rfl rfl rfl ⟨rfl, pd_X4_set⟩ ⟨Nat.le_of_ble_eq_true rfl, Nat.le_of_ble_eq_true rfl⟩) ⟨pz_blind, va_recv hK hP (ci := 4) (q0 := q82) rfl eq82, pz_pre hP hK hD hN⟩ rfl rfl hl.1 rfl (lv_room (Nat.le_of_ble_eq_true rfl)) dX9_keepLanding_107 ⟨Nat.le_of_ble_eq_true rfl, Nat.le_of_ble_eq_true rfl⟩) hS (fun q _ h => hFc q h) hFc (fun f85 t H1 locs ht hvm hw84 hB hz1 hk1 hS => ?_)
      refine tn_3 hw84 (fun hT hF86 hw84p => ?_); clear hw84
      have hR := hR.then hF86 (by decide)
      have hX := hX.fr hF86 (by decide)
      have hP := hB.1; rw [ht] at hP; have hD := tp_ad f85 hD; clear hB hFc hz1 hk1; subst ht; generalize t.heap = H at hP hS ⊢
      refine lv_iconst (v := 0) hx hb dX9_keepLanding_110 (by decide) ?_
      refine lv_istore (lv' := [(4, .int 0), (3, .int w10), (0, .ref h0), (1, .int a), (2, .ref h1)]) hx hb dX9_keepLanding_111 hl (by decide) rfl (fun ls hl => ?_)
      refine pz_loop (fun n0 H locs ls => ∃ f88 : Nat → va_E, ∃ w87 : Int32, n0 = (6 - (w87.toInt)).toNat ∧ tp_T Ω κ τ ν ρ f88 ∧ tp_F τ [5, 21] f f88 ∧ tp_X τ ρ (fun n => n = 17) f f88 ∧ (0 ≤ w87.toInt ∧ w87.toInt ≤ 6) ∧ va_P (dC, dI) vwCl (va_pl L f88) H ∧ va_D A (va_pl L f88) ∧ va_S A s.heap H locs ∧ lv_has ls 5 [(4, .int w87), (3, .int w10), (0, .ref h0), (1, .int a), (2, .ref h1)]) ?_ _ _ _ _ ⟨f85, 0, rfl, hT, hR, hX, (by have : (0 : Int32).toInt = 0 := rfl; omega), hP, hD, hS, lv_sub hl [0, 1, 2, 3, 4] rfl⟩
      intro n0 H locs ls hI ih89
      refine Exists.elim hI (fun f88 hE90 => Exists.elim hE90 (fun w87 hE91 => tn_9 hE91 (fun hn90 hT hR hX rw87 hP hD hS hl => ?_)))
      clear hE91 hE90 hI
      refine lv_iload hx hb dX9_keepLanding_113 (lv_at hl 0 rfl) ?_
      refine lv_bipush (v := 6) hx hb dX9_keepLanding_115 (by decide) ?_
      refine lv_icmp_ge (tgt := 149) hx hb dX9_keepLanding_117 (by decide) (fun c91 => ?_) (fun c91 => ?_)
      · have ic91 : w87.toInt ≥ 6 := zi_ge rfl rfl c91
        refine lv_aload_n hx hb dX9_keepLanding_149 rfl (lv_at hl 2 rfl) ?_
        refine tpk_10 hT ht_h0 (fun o92_x1 o92_x2 o92_x3 hf_o92 ro92_0 ro92_1 => ?_)
        refine tpk_pos (tp_in hG ht_h0 (by decide)) hf_o92 (fun q93 eq93 => ?_)
        refine va_get (D := (dC, dI)) (ci := 9) (v := .ref (ρ h0 0)) (C := RX9) (T := TX9) (N := 4) hx hb hts hfX9 hown hK hP q93 eq93 rfl 0 (by decide) (hts (.fieldLink RX9 9 "ColdShips$Watch" "world" "LColdShips$World;") wa_114) (fun _ h9 => h9) rfl dX9_keepLanding_150 ?_
        refine tpk_11 hT y14 (fun o94_x0 o94_x1 o94_x2 o94_x3 o94_x4 o94_x5 o94_x6 hf_o94 ro94_0 ro94_1 ro94_2 ro94_3 => ?_)
        refine tpk_pos (tp_in hG y14 (by decide)) hf_o94 (fun q95 eq95 => ?_)
        refine va_getN (D := (dC, dI)) (ci := 10) (v := .ref (ρ (ρ h0 0) 17)) (C := RX10) (T := TX10) (N := 19) hx hb hts hfX10 hown hK hP q95 eq95 rfl 17 (by decide) (va_Nw.use rfl (hN.1 (.fieldLinkNest RX9 214 "ColdShips$World" "landings" "LColdShips$Rows;" "ColdShips") nzw_84)) (fun _ h9 => h9) rfl dX9_keepLanding_153 ?_
        refine lv_iload_n hx hb dX9_keepLanding_156 rfl (lv_at hl 1 rfl) ?_
        refine lv_bipush (v := 11) hx hb dX9_keepLanding_157 (by decide) ?_
        refine lv_ldc2 (own := RX9) (v := (-1)) hx hb hown (hts (.constantLong RX9 236 (-1)) wa_512) dX9_keepLanding_159 ?_
        refine tpk_5 hT y27 (fun o96_x0 o96_x2 hf_o96 ro96_0 ro96_1 => ?_)
        refine tpk_pos (tp_in hG y27 (by decide)) hf_o96 (fun q97 eq97 => ?_)
        have hFc := tp_fr hD hS hA
        have ro96_0 := tp_hu ro96_0; have ro96_1 := tp_hu ro96_1
        refine va_callv (va_runV (As := [.int w10, .int 11, .long (-1)]) (rest := []) ⟨hx, hb, hml, hown, hts⟩ (t_X4_set l dC dI _ Ω κ τ ν ρ L f88 hG hT (ρ (ρ h0 0) 17) w10 (11) ((-1)) y27 o96_x0 o96_x2 hf_o96) (cwV 3 hts gX9_keepLanding_X4_set rfl rfl rfl ⟨rfl, pd_X4_set⟩ ⟨Nat.le_of_ble_eq_true rfl, Nat.le_of_ble_eq_true rfl⟩) ⟨pz_blind, va_recv hK hP (ci := 4) (q0 := q97) rfl eq97, pz_pre hP hK hD hN⟩ rfl rfl hl.1 rfl (lv_room (Nat.le_of_ble_eq_true rfl)) dX9_keepLanding_162 ⟨Nat.le_of_ble_eq_true rfl, Nat.le_of_ble_eq_true rfl⟩) hS (fun q _ h => hFc q h) hFc (fun f100 t H1 locs ht hvm hw99 hB hz1 hk1 hS => ?_)
        refine tn_3 hw99 (fun hT hF101 hw99p => ?_); clear hw99
        have hR := hR.then hF101 (by decide)
        have hX := hX.fr hF101 (by decide)
        have hP := hB.1; rw [ht] at hP; have hD := tp_ad f100 hD; clear hB hFc hz1 hk1; subst ht; generalize t.heap = H at hP hS ⊢
        refine lv_aload_n hx hb dX9_keepLanding_165 rfl (lv_at hl 2 rfl) ?_
        have hf_102 : f100 h0 = .inr (9, [.ref (ρ h0 0), .int o92_x1, .int o92_x2, .int o92_x3]) := (hF101 _ (by rw [ht_h0]; decide)).trans hf_o92
        refine tpk_pos (tp_in hG ht_h0 (by decide)) hf_102 (fun q103 eq103 => ?_)
        refine va_get (D := (dC, dI)) (ci := 9) (v := .ref (ρ h0 0)) (C := RX9) (T := TX9) (N := 4) hx hb hts hfX9 hown hK hP q103 eq103 rfl 0 (by decide) (hts (.fieldLink RX9 9 "ColdShips$Watch" "world" "LColdShips$World;") wa_114) (fun _ h9 => h9) rfl dX9_keepLanding_166 ?_
        have hf_104 : f100 (ρ h0 0) = .inr (10, [.int o94_x0, .int o94_x1, .int o94_x2, .int o94_x3, .int o94_x4, .int o94_x5, .int o94_x6, .ref (ρ (ρ h0 0) 7), .ref (ρ (ρ h0 0) 8), .ref (ρ (ρ h0 0) 9), .ref (ρ (ρ h0 0) 10), .ref (ρ (ρ h0 0) 11), .ref (ρ (ρ h0 0) 12), .ref (ρ (ρ h0 0) 13), .ref (ρ (ρ h0 0) 14), .ref (ρ (ρ h0 0) 15), .ref (ρ (ρ h0 0) 16), .ref (ρ (ρ h0 0) 17), .ref (ρ (ρ h0 0) 18)]) := (hF101 _ (by rw [y14]; decide)).trans hf_o94
        refine tpk_pos (tp_in hG y14 (by decide)) hf_104 (fun q105 eq105 => ?_)
        refine va_getN (D := (dC, dI)) (ci := 10) (v := .ref (ρ (ρ h0 0) 17)) (C := RX10) (T := TX10) (N := 19) hx hb hts hfX10 hown hK hP q105 eq105 rfl 17 (by decide) (va_Nw.use rfl (hN.1 (.fieldLinkNest RX9 214 "ColdShips$World" "landings" "LColdShips$Rows;" "ColdShips") nzw_84)) (fun _ h9 => h9) rfl dX9_keepLanding_169 ?_
        refine lv_iload_n hx hb dX9_keepLanding_172 rfl (lv_at hl 1 rfl) ?_
        refine lv_bipush (v := 12) hx hb dX9_keepLanding_173 (by decide) ?_
        refine lv_ldc2 (own := RX9) (v := (-1)) hx hb hown (hts (.constantLong RX9 236 (-1)) wa_512) dX9_keepLanding_175 ?_
        have hf_106 : f100 (ρ (ρ h0 0) 17) = .inr (4, [.int o96_x0, .ref (ρ (ρ (ρ h0 0) 17) 1), .int o96_x2]) := (hF101 _ (by rw [tp_iu y27]; decide)).trans hf_o96
        refine tpk_pos (tp_in hG y27 (by decide)) hf_106 (fun q107 eq107 => ?_)
        have hFc := tp_fr hD hS hA
        refine va_callv (va_runV (As := [.int w10, .int 12, .long (-1)]) (rest := []) ⟨hx, hb, hml, hown, hts⟩ (t_X4_set l dC dI _ Ω κ τ ν ρ L f100 hG hT (ρ (ρ h0 0) 17) w10 (12) ((-1)) y27 o96_x0 o96_x2 hf_106) (cwV 3 hts gX9_keepLanding_X4_set rfl rfl rfl ⟨rfl, pd_X4_set⟩ ⟨Nat.le_of_ble_eq_true rfl, Nat.le_of_ble_eq_true rfl⟩) ⟨pz_blind, va_recv hK hP (ci := 4) (q0 := q107) rfl eq107, pz_pre hP hK hD hN⟩ rfl rfl hl.1 rfl (lv_room (Nat.le_of_ble_eq_true rfl)) dX9_keepLanding_178 ⟨Nat.le_of_ble_eq_true rfl, Nat.le_of_ble_eq_true rfl⟩) hS (fun q _ h => hFc q h) hFc (fun f110 t H1 locs ht hvm hw109 hB hz1 hk1 hS => ?_)
        refine tn_3 hw109 (fun hT hF111 hw109p => ?_); clear hw109
        have hR := hR.then hF111 (by decide)
        have hX := hX.fr hF111 (by decide)
        have hP := hB.1; rw [ht] at hP; have hD := tp_ad f110 hD; clear hB hFc hz1 hk1; subst ht; generalize t.heap = H at hP hS ⊢
        exact W.vret hx hb hr (fun t ht hW => ⟨⟨f110, rfl, ⟨hT, hR, hX⟩, by rw [ht]; exact hP, va_K.moved hW.alike hK, hD⟩, hS.F ht⟩) hS.2.2 dX9_keepLanding_181
      · have ic91 : w87.toInt < 6 := zi_gef rfl rfl c91
        refine lv_aload_n hx hb dX9_keepLanding_120 rfl (lv_at hl 2 rfl) ?_
        refine tpk_10 hT ht_h0 (fun o112_x1 o112_x2 o112_x3 hf_o112 ro112_0 ro112_1 => ?_)
        refine tpk_pos (tp_in hG ht_h0 (by decide)) hf_o112 (fun q113 eq113 => ?_)
        refine va_get (D := (dC, dI)) (ci := 9) (v := .ref (ρ h0 0)) (C := RX9) (T := TX9) (N := 4) hx hb hts hfX9 hown hK hP q113 eq113 rfl 0 (by decide) (hts (.fieldLink RX9 9 "ColdShips$Watch" "world" "LColdShips$World;") wa_114) (fun _ h9 => h9) rfl dX9_keepLanding_121 ?_
        refine tpk_11 hT y14 (fun o114_x0 o114_x1 o114_x2 o114_x3 o114_x4 o114_x5 o114_x6 hf_o114 ro114_0 ro114_1 ro114_2 ro114_3 => ?_)
        refine tpk_pos (tp_in hG y14 (by decide)) hf_o114 (fun q115 eq115 => ?_)
        refine va_getN (D := (dC, dI)) (ci := 10) (v := .ref (ρ (ρ h0 0) 17)) (C := RX10) (T := TX10) (N := 19) hx hb hts hfX10 hown hK hP q115 eq115 rfl 17 (by decide) (va_Nw.use rfl (hN.1 (.fieldLinkNest RX9 214 "ColdShips$World" "landings" "LColdShips$Rows;" "ColdShips") nzw_84)) (fun _ h9 => h9) rfl dX9_keepLanding_124 ?_
        refine lv_iload_n hx hb dX9_keepLanding_127 rfl (lv_at hl 1 rfl) ?_
        refine lv_iconst (v := 5) hx hb dX9_keepLanding_128 (by decide) ?_
        refine lv_iload hx hb dX9_keepLanding_129 (lv_at hl 0 rfl) ?_
        refine lv_iadd hx hb dX9_keepLanding_131 ?_
        refine lv_topi (fun z116 ez116 => ?_)
        have iz116 : z116.toInt = 5 + w87.toInt := zi_add ez116 rfl rfl (by omega) (by omega)
        refine lv_aload_n hx hb dX9_keepLanding_132 rfl (lv_at hl 4 rfl) ?_
        refine tpk_6 hT ht_h1 (fun o117_x1 o117_x2 o117_x3 o117_x4 o117_x5 o117_x6 o117_x10 o117_x11 o117_x12 o117_x14 hf_o117 ro117_0 ro117_1 ro117_2 => ?_)
        refine tpk_pos (tp_in hG ht_h1 (by decide)) hf_o117 (fun q118 eq118 => ?_)
        refine va_getN (D := (dC, dI)) (ci := 5) (v := .ref (ρ h1 13)) (C := RX5) (T := TX5) (N := 17) hx hb hts hfX5 hown hK hP q118 eq118 rfl 13 (by decide) (va_Nw.use rfl (hN.1 (.fieldLinkNest RX9 233 "ColdShips$Ship" "landParts" "[I" "ColdShips") nzw_43)) (fun _ h9 => h9) rfl dX9_keepLanding_133 ?_
        refine lv_iload hx hb dX9_keepLanding_136 (lv_at hl 0 rfl) ?_
        refine tpk_20 hT y5 y5n (fun g120 hf_o119 => ?_)
        refine tpk_pos (tp_in hG y5 (by decide)) hf_o119 (fun q121 eq121 => ?_)
        refine va_iald hx hb hK hP q121 0 eq121 rfl (vp_in_iff.mpr ⟨by omega, by omega⟩) dX9_keepLanding_138 ?_
        refine lv_topi (fun z122 ez122 => ?_)
        refine lv_i2l hx hb dX9_keepLanding_139 rfl ?_
        refine tpk_5 hT y27 (fun o123_x0 o123_x2 hf_o123 ro123_0 ro123_1 => ?_)
        refine tpk_pos (tp_in hG y27 (by decide)) hf_o123 (fun q124 eq124 => ?_)
        have hFc := tp_fr hD hS hA
        have ro123_0 := tp_hu ro123_0; have ro123_1 := tp_hu ro123_1
        refine va_callv (va_runV (As := [.int w10, .int z116, .long z122.toInt64]) (rest := []) ⟨hx, hb, hml, hown, hts⟩ (t_X4_set l dC dI _ Ω κ τ ν ρ L f88 hG hT (ρ (ρ h0 0) 17) w10 z116 z122.toInt64 y27 o123_x0 o123_x2 hf_o123) (cwV 3 hts gX9_keepLanding_X4_set rfl rfl rfl ⟨rfl, pd_X4_set⟩ ⟨Nat.le_of_ble_eq_true rfl, Nat.le_of_ble_eq_true rfl⟩) ⟨pz_blind, va_recv hK hP (ci := 4) (q0 := q124) rfl eq124, pz_pre hP hK hD hN⟩ rfl rfl hl.1 rfl (lv_room (Nat.le_of_ble_eq_true rfl)) dX9_keepLanding_140 ⟨Nat.le_of_ble_eq_true rfl, Nat.le_of_ble_eq_true rfl⟩) hS (fun q _ h => hFc q h) hFc (fun f127 t H1 locs ht hvm hw126 hB hz1 hk1 hS => ?_)
        refine tn_3 hw126 (fun hT hF128 hw126p => ?_); clear hw126
        have hR := hR.then hF128 (by decide)
        have hX := hX.fr hF128 (by decide)
        have hP := hB.1; rw [ht] at hP; have hD := tp_ad f127 hD; clear hB hFc hz1 hk1; subst ht; generalize t.heap = H at hP hS ⊢
        obtain ⟨z129, ez129⟩ : ∃ y : Int32, y = w87 + 1 := ⟨_, rfl⟩
        refine lv_iinc (v := z129) (lv' := [(4, .int z129), (3, .int w10), (0, .ref h0), (1, .int a), (2, .ref h1)]) hx hb dX9_keepLanding_143 hl (k := 0) rfl (by rw [ez129]; rfl) (by decide) rfl (fun ls hl => ?_)
        have iz129 : z129.toInt = w87.toInt + 1 := zi_add ez129 rfl rfl (by omega) (by omega)
        refine lv_goto (tgt := 113) hx hb dX9_keepLanding_146 (by decide) ?_
        exact ih89 _ _ _ _ (by rw [hn90]; omega) ⟨f127, z129, rfl, hT, hR, hX, (by omega), hP, hD, hS, lv_sub hl [0, 1, 2, 3, 4] rfl⟩
    · have ic13 : w10.toInt = (-1) := zi_nef rfl rfl c13
      exact W.vret hx hb hr (fun t ht hW => ⟨⟨f12, rfl, ⟨hT, hR, hX⟩, by rw [ht]; exact hP, va_K.moved hW.alike hK, hD⟩, hS.F ht⟩) hS.2.2 dX9_keepLanding_27
  · refine lv_if_le (tgt := 20) hx hb dX9_keepLanding_4 (by decide) (fun c130 => ?_) (fun c130 => ?_)
    · have ic130 : o8_x12.toInt ≤ 0 := zi_le rfl rfl c130
      refine lv_iconst (v := (-1)) hx hb dX9_keepLanding_20 (by decide) ?_
      exact hj11 _ _ _ _ ⟨f, (-1), rfl, hT, hR, hX, hP, hD, hS, lv_sub hl [0, 1, 2] rfl⟩
    · have ic130 : o8_x12.toInt > 0 := zi_lef rfl rfl c130
      refine lv_aload_n hx hb dX9_keepLanding_7 rfl (lv_at hl 0 rfl) ?_
      have ⟨y131, y131l⟩ := tpg_10 hG ht_h0
      refine tpk_10 hT ht_h0 (fun o132_x1 o132_x2 o132_x3 hf_o132 ro132_0 ro132_1 => ?_)
      refine tpk_pos (tp_in hG ht_h0 (by decide)) hf_o132 (fun q133 eq133 => ?_)
      refine va_get (D := (dC, dI)) (ci := 9) (v := .ref (ρ h0 0)) (C := RX9) (T := TX9) (N := 4) hx hb hts hfX9 hown hK hP q133 eq133 rfl 0 (by decide) (hts (.fieldLink RX9 9 "ColdShips$Watch" "world" "LColdShips$World;") wa_114) (fun _ h9 => h9) rfl dX9_keepLanding_8 ?_
      refine tgk_11 hG y131 (fun y134 y134n y135 y135n y136 y137 y138 y139 y139m y139l y140 y140m y140l y141 y141m y141l y142 y142w y142m y142l y143 y143w y143m y143l y144 y144w y144m y144l y145 y145w y145m y145l => ?_)
      refine tpk_11 hT y131 (fun o146_x0 o146_x1 o146_x2 o146_x3 o146_x4 o146_x5 o146_x6 hf_o146 ro146_0 ro146_1 ro146_2 ro146_3 => ?_)
      refine tpk_pos (tp_in hG y131 (by decide)) hf_o146 (fun q147 eq147 => ?_)
      refine va_getN (D := (dC, dI)) (ci := 10) (v := .ref (ρ (ρ h0 0) 17)) (C := RX10) (T := TX10) (N := 19) hx hb hts hfX10 hown hK hP q147 eq147 rfl 17 (by decide) (va_Nw.use rfl (hN.1 (.fieldLinkNest RX9 214 "ColdShips$World" "landings" "LColdShips$Rows;" "ColdShips") nzw_84)) (fun _ h9 => h9) rfl dX9_keepLanding_11 ?_
      refine tgk_5 hG y144 (fun y148 y148n y149a y149b y149c => ?_)
      refine tpk_5 hT y144 (fun o150_x0 o150_x2 hf_o150 ro150_0 ro150_1 => ?_)
      refine tpk_pos (tp_in hG y144 (by decide)) hf_o150 (fun q151 eq151 => ?_)
      have hFc := tp_fr hD hS hA
      have ro150_0 := tp_hu ro150_0; have ro150_1 := tp_hu ro150_1
      refine va_calli (va_runV (As := []) (rest := []) ⟨hx, hb, hml, hown, hts⟩ (t_X4_addRow l dC dI _ Ω κ τ ν ρ L f hG hT (ρ (ρ h0 0) 17) y144 o150_x0 o150_x2 hf_o150) (cwV 0 hts gX9_keepLanding_X4_addRow rfl rfl rfl ⟨rfl, pd_X4_addRow⟩ ⟨Nat.le_of_ble_eq_true rfl, Nat.le_of_ble_eq_true rfl⟩) ⟨pz_blind, va_recv hK hP (ci := 4) (q0 := q151) rfl eq151, pz_pre hP hK hD hN⟩ rfl rfl hl.1 rfl (lv_room (Nat.le_of_ble_eq_true rfl)) dX9_keepLanding_14 ⟨Nat.le_of_ble_eq_true rfl, Nat.le_of_ble_eq_true rfl⟩) hS (fun q _ h => hFc q h) hFc (fun r152 f154 t H1 locs ht hvm hw153 hB hz1 hk1 hS => ?_)
      refine tn_4 hw153 (fun hT hF155 hw153r hw153p => ?_); clear hw153
      have hR := hR.then hF155 (by decide)
      obtain ⟨hw153x, hw153p⟩ := hw153p
      have hX := hX.th hw153x (fun n q9 => by have q8 : n = ρ (ρ (ρ h0 0) 17) 30 := q9; show n = 17; omega)
      have hP := hB.1; rw [ht] at hP; have hD := tp_ad f154 hD; clear hB hFc hz1 hk1; subst ht; generalize t.heap = H at hP hS ⊢
      refine tpk_5 hT y144 (fun o156_x0 o156_x2 hf_o156 ro156_0 ro156_1 => ?_)
      have ro156_1 := tp_hu ro156_1
      have tv157 : tp_fld (f154 (ρ (ρ h0 0) 17)) 2 = o156_x2.toInt := by rw [hf_o156]; rfl
      have pl158 : ((((o150_x2.toInt = (ρ (ρ (ρ h0 0) 17) 11 : Int)) → r152.toInt = -1) ∧ (¬ (o150_x2.toInt = (ρ (ρ (ρ h0 0) 17) 11 : Int)) → r152.toInt = o150_x2.toInt))) ∧ ((((o150_x2.toInt = (ρ (ρ (ρ h0 0) 17) 11 : Int)) → o156_x2.toInt = o150_x2.toInt) ∧ (¬ (o150_x2.toInt = (ρ (ρ (ρ h0 0) 17) 11 : Int)) → o156_x2.toInt = o150_x2.toInt + 1))) := by have q9 := hw153p; rw [tv157] at q9; exact q9
      refine lv_goto (tgt := 21) hx hb dX9_keepLanding_17 (by decide) ?_
      exact hj11 _ _ _ _ ⟨f154, r152, rfl, hT, hR, hX, hP, hD, hS, lv_sub hl [0, 1, 2] rfl⟩
set_option maxHeartbeats 4000000 in
set_option maxRecDepth 100000 in
theorem t_X9_land (l : Launch) (dC : Nat → ClassId) (dI : Nat → Nat → Nat) (sz : Nat) (Ω : Nat → Nat → (Nat → Nat) → va_E → Prop) (κ : Nat → ClassId) (τ ν : Nat → Nat) (ρ : Nat → Nat → Nat) (L : List Nat) (f : Nat → va_E) (hG : tp_G τ ν ρ L) (hT : tp_T Ω κ τ ν ρ f) (h0 : Nat) (a : Int32) (h1 : Nat) (ht_h0 : τ h0 = 10) (ht_h1 : τ h1 = 6) : Met l yX9_land wqX9_land ({ frames := 6, cells := 0, slots := 0, locals := 2000 }) (va_Pc [.ref h0, .int a, .ref h1] (pz_B dC dI (tp_K κ) (va_pl L f) sz)) (va_Qv (fun (f1 : Nat → va_E) => tp_T Ω κ τ ν ρ f1 ∧ tp_F τ [5, 6, 8, 9, 20, 21] f f1 ∧ tp_X τ ρ (fun n => n = 17) f f1) (fun (f1 : Nat → va_E) (t : State) => pz_E dC dI (tp_K κ) (va_A (va_pl L f) sz) (va_pl L f1) t) (va_A (va_pl L f) sz)) 0 0 (va_A (va_pl L f) sz) := by
  refine Met.ofW (cc := cX9_land) (maxL := 7) (ret := none) (by decide) rfl ?_
  intro p e s m args below meth c s₁ B hml hv
  obtain ⟨rfl, hsz, hP, hK, hD0, hN⟩ := hv
  have hx := B.exec
  have hb := B.bytes
  have hr := B.returns
  have hts := fun (w : Cond) (h : w ∈ WALL) => atoms_spec (ws := wqX9_land) B.pre w (List.mem_cons_of_mem _ h)
  have hown : s.vm.findClass RX9 = some m.cls := findClass_of_methodNamed B.named
  have hlocks := B.notSynchronized
  subst hsz
  have hD := hD0.self (sz := s.heap.size)
  generalize hAe : va_A (va_pl L f) s.heap.size = A at hD ⊢
  have hA : ∀ q : Nat, s.heap.size ≤ q → A q := fun q h => by rw [← hAe]; exact Or.inr h
  have hS : va_S A s.heap s.heap [] := va_S.rf
  have hR : tp_F τ [5, 6, 8, 9, 20, 21] f f := tp_F.rf
  have hX : tp_X τ ρ (fun n => n = 17) f f := tp_X.rf
  have hl := lv_entry ([.ref h0, .int a, .ref h1]) (n := 7) (Nat.le_of_ble_eq_true rfl)
  rw [lg_entry_eq]
  generalize (lg_sl ([.ref h0, .int a, .ref h1]) ++ List.replicate (7 - (lg_sl ([.ref h0, .int a, .ref h1])).length) Slot.unset).toArray = ls at hl ⊢
  have hl : lv_has ls 7 [(0, .ref h0), (1, .int a), (2, .ref h1)] := hl
  refine lv_aload_n hx hb dX9_land_0 rfl (lv_at hl 0 rfl) ?_
  have ⟨y1, y1l⟩ := tpg_10 hG ht_h0
  refine tpk_10 hT ht_h0 (fun o2_x1 o2_x2 o2_x3 hf_o2 ro2_0 ro2_1 => ?_)
  refine tpk_pos (tp_in hG ht_h0 (by decide)) hf_o2 (fun q3 eq3 => ?_)
  refine va_get (D := (dC, dI)) (ci := 9) (v := .ref (ρ h0 0)) (C := RX9) (T := TX9) (N := 4) hx hb hts hfX9 hown hK hP q3 eq3 rfl 0 (by decide) (hts (.fieldLink RX9 9 "ColdShips$Watch" "world" "LColdShips$World;") wa_114) (fun _ h9 => h9) rfl dX9_land_1 ?_
  refine tgk_11 hG y1 (fun y4 y4n y5 y5n y6 y7 y8 y9 y9m y9l y10 y10m y10l y11 y11m y11l y12 y12w y12m y12l y13 y13w y13m y13l y14 y14w y14m y14l y15 y15w y15m y15l => ?_)
  refine tpk_11 hT y1 (fun o16_x0 o16_x1 o16_x2 o16_x3 o16_x4 o16_x5 o16_x6 hf_o16 ro16_0 ro16_1 ro16_2 ro16_3 => ?_)
  refine tpk_pos (tp_in hG y1 (by decide)) hf_o16 (fun q17 eq17 => ?_)
  refine va_getN (D := (dC, dI)) (ci := 10) (v := .ref (ρ (ρ h0 0) 9)) (C := RX10) (T := TX10) (N := 19) hx hb hts hfX10 hown hK hP q17 eq17 rfl 9 (by decide) (va_Nw.use rfl (hN.1 (.fieldLinkNest RX9 121 "ColdShips$World" "terminals" "[LColdShips$Terminal;" "ColdShips") nzw_66)) (fun _ h9 => h9) rfl dX9_land_4 ?_
  refine lv_aload_n hx hb dX9_land_7 rfl (lv_at hl 2 rfl) ?_
  refine tgk_6 hG ht_h1 (fun y18 y19 y19n y20 y20n y21 y21n y22 y22n y23 y23n y24 y24n => ?_)
  refine tpk_6 hT ht_h1 (fun o25_x1 o25_x2 o25_x3 o25_x4 o25_x5 o25_x6 o25_x10 o25_x11 o25_x12 o25_x14 hf_o25 ro25_0 ro25_1 ro25_2 => ?_)
  refine tpk_pos (tp_in hG ht_h1 (by decide)) hf_o25 (fun q26 eq26 => ?_)
  have ro25_0 := tp_hu ro25_0
  refine va_getN (D := (dC, dI)) (ci := 5) (v := .int o25_x2) (C := RX5) (T := TX5) (N := 17) hx hb hts hfX5 hown hK hP q26 eq26 rfl 2 (by decide) (va_Nw.use rfl (hN.1 (.fieldLinkNest RX9 114 "ColdShips$Ship" "where" "I" "ColdShips") nzw_27)) (fun _ h9 => h9) rfl dX9_land_8 ?_
  refine tpk_24 hT y6 (fun g28 hf_o27 hf_o27e => ?_)
  refine tpk_pos (tp_in hG y6 (by decide)) hf_o27 (fun q29 eq29 => ?_)
  refine va_aldq hx hb hK hP q29 4 eq29 rfl (vp_in_iff.mpr ⟨by omega, by omega⟩) dX9_land_11 ?_
  obtain ⟨b30, hb31⟩ : ∃ b : Nat, b = ρ (ρ (ρ h0 0) 9) o25_x2.toNatClampNeg := ⟨_, rfl⟩
  have hb31t : τ b30 = 9 := by rw [hb31]; exact tpg_24 hG y6 _ (zi_cl (vp_in_iff.mpr ⟨by omega, by omega⟩))
  have hb31g : g28 o25_x2.toNatClampNeg = some b30 := by rw [hb31]; exact hf_o27e _ (zi_cl (vp_in_iff.mpr ⟨by omega, by omega⟩))
  refine W.eq (g2 := F0 m 12 ls (.ref b30 :: [])) (congrArg (fun o => F0 m 12 ls (va_rf o :: [])) hb31g) ?_
  refine lv_astore_n (lv' := [(3, .ref b30), (0, .ref h0), (1, .int a), (2, .ref h1)]) hx hb dX9_land_12 rfl hl (by decide) rfl (fun ls hl => ?_)
  refine lv_iconst (v := 0) hx hb dX9_land_13 (by decide) ?_
  refine lv_aload_n hx hb dX9_land_14 rfl (lv_at hl 3 rfl) ?_
  refine va_getN (D := (dC, dI)) (ci := 5) (v := .ref (ρ h1 0)) (C := RX5) (T := TX5) (N := 17) hx hb hts hfX5 hown hK hP q26 eq26 rfl 0 (by decide) (va_Nw.use rfl (hN.1 (.fieldLinkNest RX9 55 "ColdShips$Ship" "tank" "LColdShips$Tank;" "ColdShips") nzw_21)) (fun _ h9 => h9) rfl dX9_land_15 ?_
  refine tgk_8 hG y18 (fun y32 y32n y33 y33n y34 y34n => ?_)
  refine tpk_8 hT y18 (fun o35_x0 o35_x1 o35_x2 o35_x3 hf_o35 ro35_0 => ?_)
  refine tpk_pos (tp_in hG y18 (by decide)) hf_o35 (fun q36 eq36 => ?_)
  refine va_getN (D := (dC, dI)) (ci := 7) (v := .int o35_x1) (C := RX7) (T := TX7) (N := 7) hx hb hts hfX7 hown hK hP q36 eq36 rfl 1 (by decide) (va_Nw.use rfl (hN.1 (.fieldLinkNest RX9 183 "ColdShips$Tank" "gas" "I" "ColdShips") nzw_14)) (fun _ h9 => h9) rfl dX9_land_18 ?_
  refine lv_aload_n hx hb dX9_land_21 rfl (lv_at hl 3 rfl) ?_
  refine va_getN (D := (dC, dI)) (ci := 5) (v := .ref (ρ h1 0)) (C := RX5) (T := TX5) (N := 17) hx hb hts hfX5 hown hK hP q26 eq26 rfl 0 (by decide) (va_Nw.use rfl (hN.1 (.fieldLinkNest RX9 55 "ColdShips$Ship" "tank" "LColdShips$Tank;" "ColdShips") nzw_21)) (fun _ h9 => h9) rfl dX9_land_22 ?_
  refine pz_calli (va_runV (As := []) (rest := [.int o35_x1, .int 0]) ⟨hx, hb, hml, hown, hts⟩ (t_X7_heel l dC dI _ Ω κ τ ν ρ L f hG hT (ρ h1 0) y18) (cwV 0 hts gX9_land_X7_heel rfl rfl rfl ⟨rfl, pd_X7_heel⟩ ⟨Nat.le_of_ble_eq_true rfl, Nat.le_of_ble_eq_true rfl⟩) ⟨pz_blind, va_recv hK hP (ci := 7) (q0 := q36) rfl eq36, pz_pre hP hK hD hN⟩ rfl rfl hl.1 rfl (lv_room (Nat.le_of_ble_eq_true rfl)) dX9_land_25 ⟨Nat.le_of_ble_eq_true rfl, Nat.le_of_ble_eq_true rfl⟩) (fun r37 hw38 => ?_)
  obtain ⟨hw38r, hw38p⟩ := hw38
  refine lv_isub hx hb dX9_land_28 ?_
  refine lv_topi (fun z39 ez39 => ?_)
  refine va_mmax hx hb (by rw [hml]; exact hl.1.symm) hown (hts (.methodLink RX9 175 Lib.Math.max.name) wa_486) (hts (.static Lib.Math.max.name) wa_70) (hts (.initialized "java/lang/Math") wa_71) (hts (.code Lib.Math.max.name Lib.Math.max.code 2 (some .int)) wa_72) (Nat.le_of_ble_eq_true rfl) (Nat.le_of_ble_eq_true rfl) (Nat.le_of_ble_eq_true rfl) (Nat.le_of_ble_eq_true rfl) dX9_land_29 ?_
  refine lv_topi (fun z40 ez40 => ?_)
  have iz40 := zi_max ez40 (show (0 : Int32).toInt = 0 from rfl) (rfl : z39.toInt = _)
  refine lv_istore (lv' := [(4, .int z40), (3, .ref b30), (0, .ref h0), (1, .int a), (2, .ref h1)]) hx hb dX9_land_32 hl (by decide) rfl (fun ls hl => ?_)
  refine lv_iconst (v := 0) hx hb dX9_land_34 (by decide) ?_
  refine lv_aload_n hx hb dX9_land_35 rfl (lv_at hl 1 rfl) ?_
  refine tgk_9 hG hb31t (fun y41 y41n y42 y42n => ?_)
  refine tpk_9 hT hb31t (fun o43_x0 o43_x1 o43_x2 o43_x3 o43_x4 hf_o43 ro43_0 => ?_)
  refine tpk_pos (tp_in hG hb31t (by decide)) hf_o43 (fun q44 eq44 => ?_)
  refine va_getN (D := (dC, dI)) (ci := 8) (v := .int o43_x1) (C := RX8) (T := TX8) (N := 7) hx hb hts hfX8 hown hK hP q44 eq44 rfl 1 (by decide) (va_Nw.use rfl (hN.1 (.fieldLinkNest RX9 199 "ColdShips$Terminal" "cap" "I" "ColdShips") nzw_7)) (fun _ h9 => h9) rfl dX9_land_36 ?_
  refine lv_aload_n hx hb dX9_land_39 rfl (lv_at hl 1 rfl) ?_
  refine va_getN (D := (dC, dI)) (ci := 8) (v := .int o43_x0) (C := RX8) (T := TX8) (N := 7) hx hb hts hfX8 hown hK hP q44 eq44 rfl 0 (by decide) (va_Nw.use rfl (hN.1 (.fieldLinkNest RX9 189 "ColdShips$Terminal" "store" "I" "ColdShips") nzw_5)) (fun _ h9 => h9) rfl dX9_land_40 ?_
  refine lv_isub hx hb dX9_land_43 ?_
  refine lv_topi (fun z45 ez45 => ?_)
  refine va_mmax hx hb (by rw [hml]; exact hl.1.symm) hown (hts (.methodLink RX9 175 Lib.Math.max.name) wa_486) (hts (.static Lib.Math.max.name) wa_70) (hts (.initialized "java/lang/Math") wa_71) (hts (.code Lib.Math.max.name Lib.Math.max.code 2 (some .int)) wa_72) (Nat.le_of_ble_eq_true rfl) (Nat.le_of_ble_eq_true rfl) (Nat.le_of_ble_eq_true rfl) (Nat.le_of_ble_eq_true rfl) dX9_land_44 ?_
  refine lv_topi (fun z46 ez46 => ?_)
  have iz46 := zi_max ez46 (show (0 : Int32).toInt = 0 from rfl) (rfl : z45.toInt = _)
  refine lv_istore (lv' := [(5, .int z46), (4, .int z40), (3, .ref b30), (0, .ref h0), (1, .int a), (2, .ref h1)]) hx hb dX9_land_47 hl (by decide) rfl (fun ls hl => ?_)
  refine lv_aload_n hx hb dX9_land_49 rfl (lv_at hl 2 rfl) ?_
  have ro43_0 := tp_hu ro43_0
  refine va_getN (D := (dC, dI)) (ci := 8) (v := .int o43_x2) (C := RX8) (T := TX8) (N := 7) hx hb hts hfX8 hown hK hP q44 eq44 rfl 2 (by decide) (va_Nw.use rfl (hN.1 (.fieldLinkNest RX9 172 "ColdShips$Terminal" "rate" "I" "ColdShips") nzw_8)) (fun _ h9 => h9) rfl dX9_land_50 ?_
  refine lv_aload_n hx hb dX9_land_53 rfl (lv_at hl 5 rfl) ?_
  refine va_getN (D := (dC, dI)) (ci := 5) (v := .ref (ρ h1 8)) (C := RX5) (T := TX5) (N := 17) hx hb hts hfX5 hown hK hP q26 eq26 rfl 8 (by decide) (va_Nw.use rfl (hN.1 (.fieldLinkNest RX9 97 "ColdShips$Ship" "orderWhats" "[I" "ColdShips") nzw_37)) (fun _ h9 => h9) rfl dX9_land_54 ?_
  refine lv_iconst (v := 0) hx hb dX9_land_57 (by decide) ?_
  refine tpk_20 hT y20 y20n (fun g48 hf_o47 => ?_)
  refine tpk_pos (tp_in hG y20 (by decide)) hf_o47 (fun q49 eq49 => ?_)
  refine va_iald hx hb hK hP q49 0 eq49 rfl (vp_in_iff.mpr ⟨by decide, by decide⟩) dX9_land_58 ?_
  refine lv_topi (fun z50 ez50 => ?_)
  refine va_mmin hx hb (by rw [hml]; exact hl.1.symm) hown (hts (.methodLink RX9 186 Lib.Math.min.name) wa_487) (hts (.static Lib.Math.min.name) wa_434) (hts (.initialized "java/lang/Math") wa_71) (hts (.code Lib.Math.min.name Lib.Math.min.code 2 (some .int)) wa_435) (Nat.le_of_ble_eq_true rfl) (Nat.le_of_ble_eq_true rfl) (Nat.le_of_ble_eq_true rfl) (Nat.le_of_ble_eq_true rfl) dX9_land_59 ?_
  refine lv_topi (fun z51 ez51 => ?_)
  have iz51 := zi_min ez51 (rfl : o43_x2.toInt = _) (rfl : z50.toInt = _)
  refine lv_iload hx hb dX9_land_62 (lv_at hl 1 rfl) ?_
  refine lv_iload hx hb dX9_land_64 (lv_at hl 0 rfl) ?_
  refine va_mmin hx hb (by rw [hml]; exact hl.1.symm) hown (hts (.methodLink RX9 186 Lib.Math.min.name) wa_487) (hts (.static Lib.Math.min.name) wa_434) (hts (.initialized "java/lang/Math") wa_71) (hts (.code Lib.Math.min.name Lib.Math.min.code 2 (some .int)) wa_435) (Nat.le_of_ble_eq_true rfl) (Nat.le_of_ble_eq_true rfl) (Nat.le_of_ble_eq_true rfl) (Nat.le_of_ble_eq_true rfl) dX9_land_66 ?_
  refine lv_topi (fun z52 ez52 => ?_)
  have iz52 := zi_min ez52 (rfl : z40.toInt = _) (rfl : z46.toInt = _)
  refine va_mmin hx hb (by rw [hml]; exact hl.1.symm) hown (hts (.methodLink RX9 186 Lib.Math.min.name) wa_487) (hts (.static Lib.Math.min.name) wa_434) (hts (.initialized "java/lang/Math") wa_71) (hts (.code Lib.Math.min.name Lib.Math.min.code 2 (some .int)) wa_435) (Nat.le_of_ble_eq_true rfl) (Nat.le_of_ble_eq_true rfl) (Nat.le_of_ble_eq_true rfl) (Nat.le_of_ble_eq_true rfl) dX9_land_69 ?_
  refine lv_topi (fun z53 ez53 => ?_)
  have iz53 := zi_min ez53 (rfl : z51.toInt = _) (rfl : z52.toInt = _)
  refine lv_istore (lv' := [(6, .int z53), (5, .int z46), (4, .int z40), (3, .ref b30), (0, .ref h0), (1, .int a), (2, .ref h1)]) hx hb dX9_land_72 hl (by decide) rfl (fun ls hl => ?_)
  refine lv_iload hx hb dX9_land_74 (lv_at hl 0 rfl) ?_
  refine tp_join 111 (fun H locs ls stk => ∃ f55 : Nat → va_E, stk = [] ∧ tp_T Ω κ τ ν ρ f55 ∧ tp_F τ [5, 6, 8, 9, 20, 21] f f55 ∧ tp_X τ ρ (fun n => n = 17) f f55 ∧ va_P (dC, dI) vwCl (va_pl L f55) H ∧ va_D A (va_pl L f55) ∧ va_S A s.heap H locs ∧ lv_has ls 7 [(6, .int z53), (5, .int z46), (4, .int z40), (3, .ref b30), (0, .ref h0), (1, .int a), (2, .ref h1)]) ?_ (fun hj54 => ?_)
  · intro H locs ls stk hI
    refine Exists.elim hI (fun f55 hE90 => tn_8 hE90 (fun e90 hT hR hX hP hD hS hl => ?_))
    clear hE90 hI; subst e90
    refine lv_iload hx hb dX9_land_111 (lv_at hl 0 rfl) ?_
    refine tp_join 125 (fun H locs ls stk => stk = [] ∧ va_P (dC, dI) vwCl (va_pl L f55) H ∧ va_D A (va_pl L f55) ∧ va_S A s.heap H locs ∧ lv_has ls 7 [(6, .int z53), (5, .int z46), (4, .int z40), (3, .ref b30), (0, .ref h0), (1, .int a), (2, .ref h1)]) ?_ (fun hj56 => ?_)
    · intro H locs ls stk hI
      refine tn_5 hI (fun e90 hP hD hS hl => ?_)
      clear hI; subst e90
      refine lv_aload_n hx hb dX9_land_125 rfl (lv_at hl 4 rfl) ?_
      refine lv_iload_n hx hb dX9_land_126 rfl (lv_at hl 5 rfl) ?_
      refine lv_aload_n hx hb dX9_land_127 rfl (lv_at hl 6 rfl) ?_
      refine tpk_10 hT ht_h0 (fun o57_x1 o57_x2 o57_x3 hf_o57 ro57_0 ro57_1 => ?_)
      refine tpk_pos (tp_in hG ht_h0 (by decide)) hf_o57 (fun q58 eq58 => ?_)
      have hFc := tp_fr hD hS hA
      refine va_callv (va_runV (As := [.int a, .ref h1]) (rest := []) ⟨hx, hb, hml, hown, hts⟩ (t_X9_keepLanding l dC dI _ Ω κ τ ν ρ L f55 hG hT h0 a h1 ht_h0 ht_h1) (cwV 2 hts gX9_land_X9_keepLanding rfl rfl rfl ⟨rfl, pd_X9_keepLanding⟩ ⟨Nat.le_of_ble_eq_true rfl, Nat.le_of_ble_eq_true rfl⟩) ⟨pz_blind, va_recv hK hP (ci := 9) (q0 := q58) rfl eq58, pz_pre hP hK hD hN⟩ rfl rfl hl.1 rfl (lv_room (Nat.le_of_ble_eq_true rfl)) dX9_land_128 ⟨Nat.le_of_ble_eq_true rfl, Nat.le_of_ble_eq_true rfl⟩) hS (fun q _ h => hFc q h) hFc (fun f61 t H1 locs ht hvm hw60 hB hz1 hk1 hS => ?_)
      refine tn_3 hw60 (fun hT hF62 hw60p => ?_); clear hw60
      have hR := hR.then hF62 (by decide)
      have hw60x := hw60p
      have hX := hX.th hw60x (fun n q9 => by have q8 : n = 17 := q9; show n = 17; omega)
      have hP := hB.1; rw [ht] at hP; have hD := tp_ad f61 hD; clear hB hFc hz1 hk1; subst ht; generalize t.heap = H at hP hS ⊢
      refine lv_aload_n hx hb dX9_land_131 rfl (lv_at hl 6 rfl) ?_
      refine tpk_6 hT ht_h1 (fun o63_x1 o63_x2 o63_x3 o63_x4 o63_x5 o63_x6 o63_x10 o63_x11 o63_x12 o63_x14 hf_o63 ro63_0 ro63_1 ro63_2 => ?_)
      refine tpk_pos (tp_in hG ht_h1 (by decide)) hf_o63 (fun q64 eq64 => ?_)
      have hFc := tp_fr hD hS hA
      refine va_callv (va_runV (As := []) (rest := []) ⟨hx, hb, hml, hown, hts⟩ (t_X5_forgetLanding l dC dI _ Ω κ τ ν ρ L f61 hG hT h1 ht_h1) (cwV 0 hts gX9_land_X5_forgetLanding rfl rfl rfl ⟨rfl, pd_X5_forgetLanding⟩ ⟨Nat.le_of_ble_eq_true rfl, Nat.le_of_ble_eq_true rfl⟩) ⟨pz_blind, va_recv hK hP (ci := 5) (q0 := q64) rfl eq64, pz_pre hP hK hD hN⟩ rfl rfl hl.1 rfl (lv_room (Nat.le_of_ble_eq_true rfl)) dX9_land_132 ⟨Nat.le_of_ble_eq_true rfl, Nat.le_of_ble_eq_true rfl⟩) hS (fun q _ h => hFc q h) hFc (fun f67 t H1 locs ht hvm hw66 hB hz1 hk1 hS => ?_)
      refine tn_3 hw66 (fun hT hF68 hw66p => ?_); clear hw66
      have hR := hR.then hF68 (by decide)
      have hX := hX.fr hF68 (by decide)
      have hP := hB.1; rw [ht] at hP; have hD := tp_ad f67 hD; clear hB hFc hz1 hk1; subst ht; generalize t.heap = H at hP hS ⊢
      refine lv_aload_n hx hb dX9_land_135 rfl (lv_at hl 6 rfl) ?_
      refine tpk_6 hT ht_h1 (fun o69_x1 o69_x2 o69_x3 o69_x4 o69_x5 o69_x6 o69_x10 o69_x11 o69_x12 o69_x14 hf_o69 ro69_0 ro69_1 ro69_2 => ?_)
      refine tpk_pos (tp_in hG ht_h1 (by decide)) hf_o69 (fun q70 eq70 => ?_)
      have hFc := tp_fr hD hS hA
      refine va_callv (va_runV (As := []) (rest := []) ⟨hx, hb, hml, hown, hts⟩ (t_X5_endOrder l dC dI _ Ω κ τ ν ρ L f67 hG hT h1 ht_h1) (cwV 0 hts gX9_land_X5_endOrder rfl rfl rfl ⟨rfl, pd_X5_endOrder⟩ ⟨Nat.le_of_ble_eq_true rfl, Nat.le_of_ble_eq_true rfl⟩) ⟨pz_blind, va_recv hK hP (ci := 5) (q0 := q70) rfl eq70, pz_pre hP hK hD hN⟩ rfl rfl hl.1 rfl (lv_room (Nat.le_of_ble_eq_true rfl)) dX9_land_136 ⟨Nat.le_of_ble_eq_true rfl, Nat.le_of_ble_eq_true rfl⟩) hS (fun q _ h => hFc q h) hFc (fun f73 t H1 locs ht hvm hw72 hB hz1 hk1 hS => ?_)
      refine tn_3 hw72 (fun hT hF74 hw72p => ?_); clear hw72
      have hR := hR.then hF74 (by decide)
      have hX := hX.fr hF74 (by decide)
      have hP := hB.1; rw [ht] at hP; have hD := tp_ad f73 hD; clear hB hFc hz1 hk1; subst ht; generalize t.heap = H at hP hS ⊢
      exact W.vret hx hb hr (fun t ht hW => ⟨⟨f73, rfl, ⟨hT, hR, hX⟩, by rw [ht]; exact hP, va_K.moved hW.alike hK, hD⟩, hS.F ht⟩) hS.2.2 dX9_land_139
    · refine lv_if_eq (tgt := 125) hx hb dX9_land_113 (by decide) (fun c75 => ?_) (fun c75 => ?_)
      · have ic75 : z53.toInt = 0 := zi_eq rfl rfl c75
        exact hj56 _ _ _ _ ⟨rfl, hP, hD, hS, lv_sub hl [0, 1, 2, 3, 4, 5, 6] rfl⟩
      · have ic75 : z53.toInt ≠ 0 := zi_eqf rfl rfl c75
        refine lv_aload_n hx hb dX9_land_116 rfl (lv_at hl 6 rfl) ?_
        refine tpk_6 hT ht_h1 (fun o76_x1 o76_x2 o76_x3 o76_x4 o76_x5 o76_x6 o76_x10 o76_x11 o76_x12 o76_x14 hf_o76 ro76_0 ro76_1 ro76_2 => ?_)
        refine tpk_pos (tp_in hG ht_h1 (by decide)) hf_o76 (fun q77 eq77 => ?_)
        refine va_getN (D := (dC, dI)) (ci := 5) (v := .ref (ρ h1 8)) (C := RX5) (T := TX5) (N := 17) hx hb hts hfX5 hown hK hP q77 eq77 rfl 8 (by decide) (va_Nw.use rfl (hN.1 (.fieldLinkNest RX9 97 "ColdShips$Ship" "orderWhats" "[I" "ColdShips") nzw_37)) (fun _ h9 => h9) rfl dX9_land_117 ?_
        refine lv_iconst (v := 0) hx hb dX9_land_120 (by decide) ?_
        refine tpk_20 hT y20 y20n (fun g79 hf_o78 => ?_)
        refine tpk_pos (tp_in hG y20 (by decide)) hf_o78 (fun q80 eq80 => ?_)
        refine va_iald hx hb hK hP q80 0 eq80 rfl (vp_in_iff.mpr ⟨by decide, by decide⟩) dX9_land_121 ?_
        refine lv_topi (fun z81 ez81 => ?_)
        refine lv_if_ne (tgt := 139) hx hb dX9_land_122 (by decide) (fun c82 => ?_) (fun c82 => ?_)
        · have ic82 : z81.toInt ≠ 0 := zi_ne rfl rfl c82
          exact W.vret hx hb hr (fun t ht hW => ⟨⟨f55, rfl, ⟨hT, hR, hX⟩, by rw [ht]; exact hP, va_K.moved hW.alike hK, hD⟩, hS.F ht⟩) hS.2.2 dX9_land_139
        · have ic82 : z81.toInt = 0 := zi_nef rfl rfl c82
          exact hj56 _ _ _ _ ⟨rfl, hP, hD, hS, lv_sub hl [0, 1, 2, 3, 4, 5, 6] rfl⟩
  · refine lv_if_le (tgt := 111) hx hb dX9_land_76 (by decide) (fun c83 => ?_) (fun c83 => ?_)
    · have ic83 : z53.toInt ≤ 0 := zi_le rfl rfl c83
      exact hj54 _ _ _ _ ⟨f, rfl, hT, hR, hX, hP, hD, hS, lv_sub hl [0, 1, 2, 3, 4, 5, 6] rfl⟩
    · have ic83 : z53.toInt > 0 := zi_lef rfl rfl c83
      refine lv_aload_n hx hb dX9_land_79 rfl (lv_at hl 3 rfl) ?_
      refine lv_dup hx hb dX9_land_80 rfl ?_
      refine va_getN (D := (dC, dI)) (ci := 8) (v := .int o43_x0) (C := RX8) (T := TX8) (N := 7) hx hb hts hfX8 hown hK hP q44 eq44 rfl 0 (by decide) (va_Nw.use rfl (hN.1 (.fieldLinkNest RX9 189 "ColdShips$Terminal" "store" "I" "ColdShips") nzw_5)) (fun _ h9 => h9) rfl dX9_land_81 ?_
      refine lv_iload hx hb dX9_land_84 (lv_at hl 0 rfl) ?_
      refine lv_iadd hx hb dX9_land_86 ?_
      refine lv_topi (fun z84 ez84 => ?_)
      refine va_putN (D := (dC, dI)) (ci := 8) (v := .int z84) (ty := .int) (C := RX8) (T := TX8) (N := 7) hx hb hts hfX8 tyX8 tyX8_ok nmX8 hown hK hP hD hS q44 eq44 rfl 0 (by decide) (va_Nw.use rfl (hN.1 (.fieldLinkNest RX9 189 "ColdShips$Terminal" "store" "I" "ColdShips") nzw_5)) (fun _ h9 => h9) rfl (tyX8_ok 0 (by decide)) rfl rfl (Nat.le_of_ble_eq_true rfl) dX9_land_87 (tp_k (.inr (8, [.int z84, .int o43_x1, .int o43_x2, .int o43_x3, .int o43_x4, .ref (ρ b30 5), .ref (ρ b30 6)])) hD (tp_in hG hb31t (by decide)) eq44 (fun f85 H locs hP hD hS g87 k86 => ?_))
      have hT := hT.up hb31t g87 k86 ⟨_, _, _, _, _, rfl, ro43_0⟩
      have hR := hR.up hb31t (by decide) k86
      have hX := hX.up k86 (Or.inl (by rw [hb31t]; decide))
      refine lv_aload_n hx hb dX9_land_90 rfl (lv_at hl 6 rfl) ?_
      refine lv_iload hx hb dX9_land_91 (lv_at hl 0 rfl) ?_
      refine lv_aload_n hx hb dX9_land_93 rfl (lv_at hl 4 rfl) ?_
      have hf_88 : f85 h0 = .inr (9, [.ref (ρ h0 0), .int o2_x1, .int o2_x2, .int o2_x3]) := (k86 _ (tp_ne ht_h0 hb31t (by decide))).trans hf_o2
      refine tpk_pos (tp_in hG ht_h0 (by decide)) hf_88 (fun q89 eq89 => ?_)
      have ro2_0 := tp_hu ro2_0
      refine va_get (D := (dC, dI)) (ci := 9) (v := .int o2_x1) (C := RX9) (T := TX9) (N := 4) hx hb hts hfX9 hown hK hP q89 eq89 rfl 1 (by decide) (hts (.fieldLink RX9 25 "ColdShips$Watch" "hour" "I") wa_404) (fun _ h9 => h9) rfl dX9_land_94 ?_
      have hf_90 : f85 h1 = .inr (5, [.ref (ρ h1 0), .int o25_x1, .int o25_x2, .int o25_x3, .int o25_x4, .int o25_x5, .int o25_x6, .ref (ρ h1 7), .ref (ρ h1 8), .ref (ρ h1 9), .int o25_x10, .int o25_x11, .int o25_x12, .ref (ρ h1 13), .int o25_x14, .ref (ρ h1 15), .ref (ρ h1 16)]) := (k86 _ (tp_ne ht_h1 hb31t (by decide))).trans hf_o25
      refine tpk_pos (tp_in hG ht_h1 (by decide)) hf_90 (fun q91 eq91 => ?_)
      have hFc := tp_fr hD hS hA
      refine va_callv (va_runV (As := [.int z53, .int o2_x1]) (rest := []) ⟨hx, hb, hml, hown, hts⟩ (t_X5_putAshore l dC dI _ Ω κ τ ν ρ L f85 hG hT h1 z53 o2_x1 ht_h1) (cwV 2 hts gX9_land_X5_putAshore rfl rfl rfl ⟨rfl, pd_X5_putAshore⟩ ⟨Nat.le_of_ble_eq_true rfl, Nat.le_of_ble_eq_true rfl⟩) ⟨pz_blind, va_recv hK hP (ci := 5) (q0 := q91) rfl eq91, pz_pre hP hK hD hN⟩ rfl rfl hl.1 rfl (lv_room (Nat.le_of_ble_eq_true rfl)) dX9_land_97 ⟨Nat.le_of_ble_eq_true rfl, Nat.le_of_ble_eq_true rfl⟩) hS (fun q _ h => hFc q h) hFc (fun f94 t H1 locs ht hvm hw93 hB hz1 hk1 hS => ?_)
      refine tn_3 hw93 (fun hT hF95 hw93p => ?_); clear hw93
      have hR := hR.then hF95 (by decide)
      have hX := hX.fr hF95 (by decide)
      have hP := hB.1; rw [ht] at hP; have hD := tp_ad f94 hD; clear hB hFc hz1 hk1; subst ht; generalize t.heap = H at hP hS ⊢
      refine lv_aload_n hx hb dX9_land_100 rfl (lv_at hl 6 rfl) ?_
      refine tpk_6 hT ht_h1 (fun o96_x1 o96_x2 o96_x3 o96_x4 o96_x5 o96_x6 o96_x10 o96_x11 o96_x12 o96_x14 hf_o96 ro96_0 ro96_1 ro96_2 => ?_)
      refine tpk_pos (tp_in hG ht_h1 (by decide)) hf_o96 (fun q97 eq97 => ?_)
      refine va_getN (D := (dC, dI)) (ci := 5) (v := .ref (ρ h1 8)) (C := RX5) (T := TX5) (N := 17) hx hb hts hfX5 hown hK hP q97 eq97 rfl 8 (by decide) (va_Nw.use rfl (hN.1 (.fieldLinkNest RX9 97 "ColdShips$Ship" "orderWhats" "[I" "ColdShips") nzw_37)) (fun _ h9 => h9) rfl dX9_land_101 ?_
      refine lv_iconst (v := 0) hx hb dX9_land_104 (by decide) ?_
      refine lv_dup2_11 hx hb dX9_land_105 rfl rfl ?_
      refine tpk_20 hT y20 y20n (fun g99 hf_o98 => ?_)
      refine tpk_pos (tp_in hG y20 (by decide)) hf_o98 (fun q100 eq100 => ?_)
      refine va_iald hx hb hK hP q100 0 eq100 rfl (vp_in_iff.mpr ⟨by decide, by decide⟩) dX9_land_106 ?_
      refine lv_topi (fun z101 ez101 => ?_)
      refine lv_iload hx hb dX9_land_107 (lv_at hl 0 rfl) ?_
      refine lv_isub hx hb dX9_land_109 ?_
      refine lv_topi (fun z102 ez102 => ?_)
      refine va_iast hx hb hK hP hD hS q100 0 eq100 rfl (vp_in_iff.mpr ⟨by decide, by decide⟩) dX9_land_110 (tp_k (.inl (κ 0, 20, .inl (upd g99 (0 : Int32).toNatClampNeg z102))) hD (tp_in hG y20 (by decide)) eq100 (fun f103 H locs hP hD hS g105 k104 => ?_))
      have hT := hT.up y20 g105 k104 (tp_o20 y20n)
      have hR := hR.up y20 (by decide) k104
      have hX := hX.up k104 (Or.inl (by rw [tp_iu y20]; decide))
      generalize (upd g99 (0 : Int32).toNatClampNeg z102) = g106 at g105
      exact hj54 _ _ _ _ ⟨f103, rfl, hT, hR, hX, hP, hD, hS, lv_sub hl [0, 1, 2, 3, 4, 5, 6] rfl⟩
set_option maxHeartbeats 4000000 in
set_option maxRecDepth 100000 in
theorem t_X9_passShip (l : Launch) (dC : Nat → ClassId) (dI : Nat → Nat → Nat) (sz : Nat) (Ω : Nat → Nat → (Nat → Nat) → va_E → Prop) (κ : Nat → ClassId) (τ ν : Nat → Nat) (ρ : Nat → Nat → Nat) (L : List Nat) (f : Nat → va_E) (hG : tp_G τ ν ρ L) (hT : tp_T Ω κ τ ν ρ f) (h0 : Nat) (a : Int32) (ht_h0 : τ h0 = 10) (hr_a : 0 ≤ a.toInt ∧ a.toInt ≤ 5) : Met l yX9_passShip wqX9_passShip ({ frames := 7, cells := 0, slots := 0, locals := 2400 }) (va_Pc [.ref h0, .int a] (pz_B dC dI (tp_K κ) (va_pl L f) sz)) (va_Qv (fun (f1 : Nat → va_E) => tp_T Ω κ τ ν ρ f1 ∧ tp_F τ [5, 6, 8, 9, 10, 20, 21] f f1 ∧ tp_X τ ρ (fun n => n = 17) f f1) (fun (f1 : Nat → va_E) (t : State) => pz_E dC dI (tp_K κ) (va_A (va_pl L f) sz) (va_pl L f1) t) (va_A (va_pl L f) sz)) 0 0 (va_A (va_pl L f) sz) := by
  refine Met.ofW (cc := cX9_passShip) (maxL := 5) (ret := none) (by decide) rfl ?_
  intro p e s m args below meth c s₁ B hml hv
  obtain ⟨rfl, hsz, hP, hK, hD0, hN⟩ := hv
  have hx := B.exec
  have hb := B.bytes
  have hr := B.returns
  have hts := fun (w : Cond) (h : w ∈ WALL) => atoms_spec (ws := wqX9_passShip) B.pre w (List.mem_cons_of_mem _ h)
  have hown : s.vm.findClass RX9 = some m.cls := findClass_of_methodNamed B.named
  have hlocks := B.notSynchronized
  subst hsz
  have hD := hD0.self (sz := s.heap.size)
  generalize hAe : va_A (va_pl L f) s.heap.size = A at hD ⊢
  have hA : ∀ q : Nat, s.heap.size ≤ q → A q := fun q h => by rw [← hAe]; exact Or.inr h
  have hS : va_S A s.heap s.heap [] := va_S.rf
  have hR : tp_F τ [5, 6, 8, 9, 10, 20, 21] f f := tp_F.rf
  have hX : tp_X τ ρ (fun n => n = 17) f f := tp_X.rf
  have hl := lv_entry ([.ref h0, .int a]) (n := 5) (Nat.le_of_ble_eq_true rfl)
  rw [lg_entry_eq]
  generalize (lg_sl ([.ref h0, .int a]) ++ List.replicate (5 - (lg_sl ([.ref h0, .int a])).length) Slot.unset).toArray = ls at hl ⊢
  have hl : lv_has ls 5 [(0, .ref h0), (1, .int a)] := hl
  refine lv_aload_n hx hb dX9_passShip_0 rfl (lv_at hl 0 rfl) ?_
  have ⟨y1, y1l⟩ := tpg_10 hG ht_h0
  refine tpk_10 hT ht_h0 (fun o2_x1 o2_x2 o2_x3 hf_o2 ro2_0 ro2_1 => ?_)
  refine tpk_pos (tp_in hG ht_h0 (by decide)) hf_o2 (fun q3 eq3 => ?_)
  refine va_get (D := (dC, dI)) (ci := 9) (v := .ref (ρ h0 0)) (C := RX9) (T := TX9) (N := 4) hx hb hts hfX9 hown hK hP q3 eq3 rfl 0 (by decide) (hts (.fieldLink RX9 9 "ColdShips$Watch" "world" "LColdShips$World;") wa_114) (fun _ h9 => h9) rfl dX9_passShip_1 ?_
  refine tgk_11 hG y1 (fun y4 y4n y5 y5n y6 y7 y8 y9 y9m y9l y10 y10m y10l y11 y11m y11l y12 y12w y12m y12l y13 y13w y13m y13l y14 y14w y14m y14l y15 y15w y15m y15l => ?_)
  refine tpk_11 hT y1 (fun o16_x0 o16_x1 o16_x2 o16_x3 o16_x4 o16_x5 o16_x6 hf_o16 ro16_0 ro16_1 ro16_2 ro16_3 => ?_)
  refine tpk_pos (tp_in hG y1 (by decide)) hf_o16 (fun q17 eq17 => ?_)
  refine va_getN (D := (dC, dI)) (ci := 10) (v := .ref (ρ (ρ h0 0) 10)) (C := RX10) (T := TX10) (N := 19) hx hb hts hfX10 hown hK hP q17 eq17 rfl 10 (by decide) (va_Nw.use rfl (hN.1 (.fieldLinkNest RX9 46 "ColdShips$World" "ships" "[LColdShips$Ship;" "ColdShips") nzw_68)) (fun _ h9 => h9) rfl dX9_passShip_4 ?_
  refine lv_iload_n hx hb dX9_passShip_7 rfl (lv_at hl 1 rfl) ?_
  refine tpk_25 hT y7 (fun g19 hf_o18 hf_o18e => ?_)
  refine tpk_pos (tp_in hG y7 (by decide)) hf_o18 (fun q20 eq20 => ?_)
  refine va_aldq hx hb hK hP q20 5 eq20 rfl (vp_in_iff.mpr ⟨by omega, by omega⟩) dX9_passShip_8 ?_
  obtain ⟨b21, hb22⟩ : ∃ b : Nat, b = ρ (ρ (ρ h0 0) 10) a.toNatClampNeg := ⟨_, rfl⟩
  have hb22t : τ b21 = 6 := by rw [hb22]; exact tpg_25 hG y7 _ (zi_cl (vp_in_iff.mpr ⟨by omega, by omega⟩))
  have hb22g : g19 a.toNatClampNeg = some b21 := by rw [hb22]; exact hf_o18e _ (zi_cl (vp_in_iff.mpr ⟨by omega, by omega⟩))
  refine W.eq (g2 := F0 m 9 ls (.ref b21 :: [])) (congrArg (fun o => F0 m 9 ls (va_rf o :: [])) hb22g) ?_
  refine lv_astore_n (lv' := [(2, .ref b21), (0, .ref h0), (1, .int a)]) hx hb dX9_passShip_9 rfl hl (by decide) rfl (fun ls hl => ?_)
  refine lv_aload_n hx hb dX9_passShip_10 rfl (lv_at hl 0 rfl) ?_
  refine tgk_6 hG hb22t (fun y23 y24 y24n y25 y25n y26 y26n y27 y27n y28 y28n y29 y29n => ?_)
  refine tpk_6 hT hb22t (fun o30_x1 o30_x2 o30_x3 o30_x4 o30_x5 o30_x6 o30_x10 o30_x11 o30_x12 o30_x14 hf_o30 ro30_0 ro30_1 ro30_2 => ?_)
  refine tpk_pos (tp_in hG hb22t (by decide)) hf_o30 (fun q31 eq31 => ?_)
  refine va_getN (D := (dC, dI)) (ci := 5) (v := .int o30_x3) (C := RX5) (T := TX5) (N := 17) hx hb hts hfX5 hown hK hP q31 eq31 rfl 3 (by decide) (va_Nw.use rfl (hN.1 (.fieldLinkNest RX9 50 "ColdShips$Ship" "left" "I" "ColdShips") nzw_29)) (fun _ h9 => h9) rfl dX9_passShip_11 ?_
  refine tp_join 22 (fun H locs ls stk => ∃ w32 : Int32, stk = [.int w32] ∧ (0 ≤ w32.toInt ∧ w32.toInt ≤ 1) ∧ va_P (dC, dI) vwCl (va_pl L f) H ∧ va_D A (va_pl L f) ∧ va_S A s.heap H locs ∧ lv_has ls 5 [(2, .ref b21), (0, .ref h0), (1, .int a)]) ?_ (fun hj33 => ?_)
  · intro H locs ls stk hI
    refine Exists.elim hI (fun w32 hE90 => tn_6 hE90 (fun e90 rw32 hP hD hS hl => ?_))
    clear hE90 hI; subst e90
    refine lv_istore_n (lv' := [(3, .int w32), (2, .ref b21), (0, .ref h0), (1, .int a)]) hx hb dX9_passShip_22 rfl hl (by decide) rfl (fun ls hl => ?_)
    refine lv_aload_n hx hb dX9_passShip_23 rfl (lv_at hl 1 rfl) ?_
    refine va_getN (D := (dC, dI)) (ci := 5) (v := .ref (ρ b21 0)) (C := RX5) (T := TX5) (N := 17) hx hb hts hfX5 hown hK hP q31 eq31 rfl 0 (by decide) (va_Nw.use rfl (hN.1 (.fieldLinkNest RX9 55 "ColdShips$Ship" "tank" "LColdShips$Tank;" "ColdShips") nzw_21)) (fun _ h9 => h9) rfl dX9_passShip_24 ?_
    refine lv_aload_n hx hb dX9_passShip_27 rfl (lv_at hl 2 rfl) ?_
    refine va_get (D := (dC, dI)) (ci := 9) (v := .ref (ρ h0 0)) (C := RX9) (T := TX9) (N := 4) hx hb hts hfX9 hown hK hP q3 eq3 rfl 0 (by decide) (hts (.fieldLink RX9 9 "ColdShips$Watch" "world" "LColdShips$World;") wa_114) (fun _ h9 => h9) rfl dX9_passShip_28 ?_
    refine va_getN (D := (dC, dI)) (ci := 10) (v := .int o16_x1) (C := RX10) (T := TX10) (N := 19) hx hb hts hfX10 hown hK hP q17 eq17 rfl 1 (by decide) (va_Nw.use rfl (hN.1 (.fieldLinkNest RX9 59 "ColdShips$World" "boils" "I" "ColdShips") nzw_50)) (fun _ h9 => h9) rfl dX9_passShip_31 ?_
    refine lv_aload_n hx hb dX9_passShip_34 rfl (lv_at hl 2 rfl) ?_
    refine va_get (D := (dC, dI)) (ci := 9) (v := .int o2_x2) (C := RX9) (T := TX9) (N := 4) hx hb hts hfX9 hown hK hP q3 eq3 rfl 2 (by decide) (hts (.fieldLink RX9 32 "ColdShips$Watch" "sea" "I") wa_405) (fun _ h9 => h9) rfl dX9_passShip_35 ?_
    refine lv_iadd hx hb dX9_passShip_38 ?_
    refine lv_topi (fun z34 ez34 => ?_)
    refine tgk_8 hG y23 (fun y35 y35n y36 y36n y37 y37n => ?_)
    refine tpk_8 hT y23 (fun o38_x0 o38_x1 o38_x2 o38_x3 hf_o38 ro38_0 => ?_)
    refine tpk_pos (tp_in hG y23 (by decide)) hf_o38 (fun q39 eq39 => ?_)
    have hFc := tp_fr hD hS hA
    refine va_callv (va_runV (As := [.int z34]) (rest := []) ⟨hx, hb, hml, hown, hts⟩ (t_X7_boil l dC dI _ Ω κ τ ν ρ L f hG hT (ρ b21 0) z34 y23) (cwV 1 hts gX9_passShip_X7_boil rfl rfl rfl ⟨rfl, pd_X7_boil⟩ ⟨Nat.le_of_ble_eq_true rfl, Nat.le_of_ble_eq_true rfl⟩) ⟨pz_blind, va_recv hK hP (ci := 7) (q0 := q39) rfl eq39, pz_pre hP hK hD hN⟩ rfl rfl hl.1 rfl (lv_room (Nat.le_of_ble_eq_true rfl)) dX9_passShip_39 ⟨Nat.le_of_ble_eq_true rfl, Nat.le_of_ble_eq_true rfl⟩) hS (fun q _ h => hFc q h) hFc (fun f42 t H1 locs ht hvm hw41 hB hz1 hk1 hS => ?_)
    refine tn_3 hw41 (fun hT hF43 hw41p => ?_); clear hw41
    have hR := hR.then hF43 (by decide)
    have hX := hX.fr hF43 (by decide)
    have hP := hB.1; rw [ht] at hP; have hD := tp_ad f42 hD; clear hB hFc hz1 hk1; subst ht; generalize t.heap = H at hP hS ⊢
    refine lv_aload_n hx hb dX9_passShip_42 rfl (lv_at hl 1 rfl) ?_
    have hf_44 : f42 b21 = .inr (5, [.ref (ρ b21 0), .int o30_x1, .int o30_x2, .int o30_x3, .int o30_x4, .int o30_x5, .int o30_x6, .ref (ρ b21 7), .ref (ρ b21 8), .ref (ρ b21 9), .int o30_x10, .int o30_x11, .int o30_x12, .ref (ρ b21 13), .int o30_x14, .ref (ρ b21 15), .ref (ρ b21 16)]) := (hF43 _ (by rw [hb22t]; decide)).trans hf_o30
    refine tpk_pos (tp_in hG hb22t (by decide)) hf_44 (fun q45 eq45 => ?_)
    refine va_getN (D := (dC, dI)) (ci := 5) (v := .ref (ρ b21 0)) (C := RX5) (T := TX5) (N := 17) hx hb hts hfX5 hown hK hP q45 eq45 rfl 0 (by decide) (va_Nw.use rfl (hN.1 (.fieldLinkNest RX9 55 "ColdShips$Ship" "tank" "LColdShips$Tank;" "ColdShips") nzw_21)) (fun _ h9 => h9) rfl dX9_passShip_43 ?_
    refine tpk_8 hT y23 (fun o46_x0 o46_x1 o46_x2 o46_x3 hf_o46 ro46_0 => ?_)
    refine tpk_pos (tp_in hG y23 (by decide)) hf_o46 (fun q47 eq47 => ?_)
    have hFc := tp_fr hD hS hA
    refine va_callv (va_runV (As := []) (rest := []) ⟨hx, hb, hml, hown, hts⟩ (t_X7_warmOrCool l dC dI _ Ω κ τ ν ρ L f42 hG hT (ρ b21 0) y23) (cwV 0 hts gX9_passShip_X7_warmOrCool rfl rfl rfl ⟨rfl, pd_X7_warmOrCool⟩ ⟨Nat.le_of_ble_eq_true rfl, Nat.le_of_ble_eq_true rfl⟩) ⟨pz_blind, va_recv hK hP (ci := 7) (q0 := q47) rfl eq47, pz_pre hP hK hD hN⟩ rfl rfl hl.1 rfl (lv_room (Nat.le_of_ble_eq_true rfl)) dX9_passShip_46 ⟨Nat.le_of_ble_eq_true rfl, Nat.le_of_ble_eq_true rfl⟩) hS (fun q _ h => hFc q h) hFc (fun f50 t H1 locs ht hvm hw49 hB hz1 hk1 hS => ?_)
    refine tn_3 hw49 (fun hT hF51 hw49p => ?_); clear hw49
    have hR := hR.then hF51 (by decide)
    have hX := hX.fr hF51 (by decide)
    have hP := hB.1; rw [ht] at hP; have hD := tp_ad f50 hD; clear hB hFc hz1 hk1; subst ht; generalize t.heap = H at hP hS ⊢
    refine lv_aload_n hx hb dX9_passShip_49 rfl (lv_at hl 1 rfl) ?_
    refine lv_iload_n hx hb dX9_passShip_50 rfl (lv_at hl 0 rfl) ?_
    refine tp_join 67 (fun H locs ls stk => ∃ w52 : Int32, stk = [.int w52, .ref b21] ∧ va_P (dC, dI) vwCl (va_pl L f50) H ∧ va_D A (va_pl L f50) ∧ va_S A s.heap H locs ∧ lv_has ls 5 [(3, .int w32), (2, .ref b21), (0, .ref h0), (1, .int a)]) ?_ (fun hj53 => ?_)
    · intro H locs ls stk hI
      refine Exists.elim hI (fun w52 hE90 => tn_5 hE90 (fun e90 hP hD hS hl => ?_))
      clear hE90 hI; subst e90
      have hf_54 : f50 b21 = .inr (5, [.ref (ρ b21 0), .int o30_x1, .int o30_x2, .int o30_x3, .int o30_x4, .int o30_x5, .int o30_x6, .ref (ρ b21 7), .ref (ρ b21 8), .ref (ρ b21 9), .int o30_x10, .int o30_x11, .int o30_x12, .ref (ρ b21 13), .int o30_x14, .ref (ρ b21 15), .ref (ρ b21 16)]) := (hF51 _ (by rw [hb22t]; decide)).trans hf_44
      refine tpk_pos (tp_in hG hb22t (by decide)) hf_54 (fun q55 eq55 => ?_)
      have hFc := tp_fr hD hS hA
      refine va_callv (va_runV (As := [.int w52]) (rest := []) ⟨hx, hb, hml, hown, hts⟩ (t_X5_burnFuel l dC dI _ Ω κ τ ν ρ L f50 hG hT b21 w52 hb22t) (cwV 1 hts gX9_passShip_X5_burnFuel rfl rfl rfl ⟨rfl, pd_X5_burnFuel⟩ ⟨Nat.le_of_ble_eq_true rfl, Nat.le_of_ble_eq_true rfl⟩) ⟨pz_blind, va_recv hK hP (ci := 5) (q0 := q55) rfl eq55, pz_pre hP hK hD hN⟩ rfl rfl hl.1 rfl (lv_room (Nat.le_of_ble_eq_true rfl)) dX9_passShip_67 ⟨Nat.le_of_ble_eq_true rfl, Nat.le_of_ble_eq_true rfl⟩) hS (fun q _ h => hFc q h) hFc (fun f58 t H1 locs ht hvm hw57 hB hz1 hk1 hS => ?_)
      refine tn_3 hw57 (fun hT hF59 hw57p => ?_); clear hw57
      have hR := hR.then hF59 (by decide)
      have hX := hX.fr hF59 (by decide)
      have hP := hB.1; rw [ht] at hP; have hD := tp_ad f58 hD; clear hB hFc hz1 hk1; subst ht; generalize t.heap = H at hP hS ⊢
      refine lv_aload_n hx hb dX9_passShip_70 rfl (lv_at hl 1 rfl) ?_
      refine tpk_6 hT hb22t (fun o60_x1 o60_x2 o60_x3 o60_x4 o60_x5 o60_x6 o60_x10 o60_x11 o60_x12 o60_x14 hf_o60 ro60_0 ro60_1 ro60_2 => ?_)
      refine tpk_pos (tp_in hG hb22t (by decide)) hf_o60 (fun q61 eq61 => ?_)
      have ro60_2 := tp_hu ro60_2
      refine va_getN (D := (dC, dI)) (ci := 5) (v := .int o60_x6) (C := RX5) (T := TX5) (N := 17) hx hb hts hfX5 hown hK hP q61 eq61 rfl 6 (by decide) (va_Nw.use rfl (hN.1 (.fieldLinkNest RX9 76 "ColdShips$Ship" "orders" "I" "ColdShips") nzw_34)) (fun _ h9 => h9) rfl dX9_passShip_71 ?_
      refine tp_join 87 (fun H locs ls stk => ∃ w62 : Int32, stk = [.int w62] ∧ va_P (dC, dI) vwCl (va_pl L f58) H ∧ va_D A (va_pl L f58) ∧ va_S A s.heap H locs ∧ lv_has ls 5 [(3, .int w32), (2, .ref b21), (0, .ref h0), (1, .int a)]) ?_ (fun hj63 => ?_)
      · intro H locs ls stk hI
        refine Exists.elim hI (fun w62 hE90 => tn_5 hE90 (fun e90 hP hD hS hl => ?_))
        clear hE90 hI; subst e90
        refine lv_istore (lv' := [(4, .int w62), (3, .int w32), (2, .ref b21), (0, .ref h0), (1, .int a)]) hx hb dX9_passShip_87 hl (by decide) rfl (fun ls hl => ?_)
        refine lv_iload hx hb dX9_passShip_89 (lv_at hl 0 rfl) ?_
        refine tp_join 172 (fun H locs ls stk => ∃ f65 : Nat → va_E, stk = [] ∧ tp_T Ω κ τ ν ρ f65 ∧ tp_F τ [5, 6, 8, 9, 10, 20, 21] f f65 ∧ tp_X τ ρ (fun n => n = 17) f f65 ∧ va_P (dC, dI) vwCl (va_pl L f65) H ∧ va_D A (va_pl L f65) ∧ va_S A s.heap H locs ∧ lv_has ls 5 [(4, .int w62), (3, .int w32), (2, .ref b21), (0, .ref h0), (1, .int a)]) ?_ (fun hj64 => ?_)
        · intro H locs ls stk hI
          refine Exists.elim hI (fun f65 hE90 => tn_8 hE90 (fun e90 hT hR hX hP hD hS hl => ?_))
          clear hE90 hI; subst e90
          refine lv_aload_n hx hb dX9_passShip_172 rfl (lv_at hl 2 rfl) ?_
          refine tpk_6 hT hb22t (fun o66_x1 o66_x2 o66_x3 o66_x4 o66_x5 o66_x6 o66_x10 o66_x11 o66_x12 o66_x14 hf_o66 ro66_0 ro66_1 ro66_2 => ?_)
          refine tpk_pos (tp_in hG hb22t (by decide)) hf_o66 (fun q67 eq67 => ?_)
          refine va_getN (D := (dC, dI)) (ci := 5) (v := .ref (ρ b21 9)) (C := RX5) (T := TX5) (N := 17) hx hb hts hfX5 hown hK hP q67 eq67 rfl 9 (by decide) (va_Nw.use rfl (hN.1 (.fieldLinkNest RX9 103 "ColdShips$Ship" "book" "[J" "ColdShips") nzw_38)) (fun _ h9 => h9) rfl dX9_passShip_173 ?_
          refine lv_iconst (v := 2) hx hb dX9_passShip_176 (by decide) ?_
          refine lv_dup2_11 hx hb dX9_passShip_177 rfl rfl ?_
          refine tpk_21 hT y26 y26n (fun g69 hf_o68 => ?_)
          refine tpk_pos (tp_in hG y26 (by decide)) hf_o68 (fun q70 eq70 => ?_)
          refine va_lald hx hb hK hP q70 1 eq70 rfl (vp_in_iff.mpr ⟨by decide, by decide⟩) dX9_passShip_178 ?_
          refine lv_topl (fun z71 ez71 => ?_)
          refine lv_aload_n hx hb dX9_passShip_179 rfl (lv_at hl 2 rfl) ?_
          refine va_getN (D := (dC, dI)) (ci := 5) (v := .ref (ρ b21 0)) (C := RX5) (T := TX5) (N := 17) hx hb hts hfX5 hown hK hP q67 eq67 rfl 0 (by decide) (va_Nw.use rfl (hN.1 (.fieldLinkNest RX9 55 "ColdShips$Ship" "tank" "LColdShips$Tank;" "ColdShips") nzw_21)) (fun _ h9 => h9) rfl dX9_passShip_180 ?_
          refine lv_aload_n hx hb dX9_passShip_183 rfl (lv_at hl 3 rfl) ?_
          refine tpk_10 hT ht_h0 (fun o72_x1 o72_x2 o72_x3 hf_o72 ro72_0 ro72_1 => ?_)
          refine tpk_pos (tp_in hG ht_h0 (by decide)) hf_o72 (fun q73 eq73 => ?_)
          refine va_get (D := (dC, dI)) (ci := 9) (v := .ref (ρ h0 0)) (C := RX9) (T := TX9) (N := 4) hx hb hts hfX9 hown hK hP q73 eq73 rfl 0 (by decide) (hts (.fieldLink RX9 9 "ColdShips$Watch" "world" "LColdShips$World;") wa_114) (fun _ h9 => h9) rfl dX9_passShip_184 ?_
          refine tpk_11 hT y1 (fun o74_x0 o74_x1 o74_x2 o74_x3 o74_x4 o74_x5 o74_x6 hf_o74 ro74_0 ro74_1 ro74_2 ro74_3 => ?_)
          refine tpk_pos (tp_in hG y1 (by decide)) hf_o74 (fun q75 eq75 => ?_)
          refine va_getN (D := (dC, dI)) (ci := 10) (v := .int o74_x2) (C := RX10) (T := TX10) (N := 19) hx hb hts hfX10 hown hK hP q75 eq75 rfl 2 (by decide) (va_Nw.use rfl (hN.1 (.fieldLinkNest RX9 107 "ColdShips$World" "limit" "I" "ColdShips") nzw_53)) (fun _ h9 => h9) rfl dX9_passShip_187 ?_
          refine tpk_8 hT y23 (fun o76_x0 o76_x1 o76_x2 o76_x3 hf_o76 ro76_0 => ?_)
          refine tpk_pos (tp_in hG y23 (by decide)) hf_o76 (fun q77 eq77 => ?_)
          have hFc := tp_fr hD hS hA
          refine va_calli (va_runV (As := [.int o74_x2]) (rest := [.long z71, .int 2, .ref (ρ b21 9)]) ⟨hx, hb, hml, hown, hts⟩ (t_X7_vent l dC dI _ Ω κ τ ν ρ L f65 hG hT (ρ b21 0) o74_x2 y23) (cwV 1 hts gX9_passShip_X7_vent rfl rfl rfl ⟨rfl, pd_X7_vent⟩ ⟨Nat.le_of_ble_eq_true rfl, Nat.le_of_ble_eq_true rfl⟩) ⟨pz_blind, va_recv hK hP (ci := 7) (q0 := q77) rfl eq77, pz_pre hP hK hD hN⟩ rfl rfl hl.1 rfl (lv_room (Nat.le_of_ble_eq_true rfl)) dX9_passShip_190 ⟨Nat.le_of_ble_eq_true rfl, Nat.le_of_ble_eq_true rfl⟩) hS (fun q _ h => hFc q h) hFc (fun r78 f80 t H1 locs ht hvm hw79 hB hz1 hk1 hS => ?_)
          refine tn_4 hw79 (fun hT hF81 hw79r hw79p => ?_); clear hw79
          have hR := hR.then hF81 (by decide)
          have hX := hX.fr hF81 (by decide)
          have hP := hB.1; rw [ht] at hP; have hD := tp_ad f80 hD; clear hB hFc hz1 hk1; subst ht; generalize t.heap = H at hP hS ⊢
          refine lv_i2l hx hb dX9_passShip_193 rfl ?_
          refine lv_ladd hx hb dX9_passShip_194 ?_
          refine lv_topl (fun z82 ez82 => ?_)
          have hf_83 : f80 (ρ b21 9) = .inl (κ 1, 4, .inr (.inl g69)) := (hF81 _ (by rw [tp_iu y26]; decide)).trans hf_o68
          refine tpk_pos (tp_in hG y26 (by decide)) hf_83 (fun q84 eq84 => ?_)
          refine va_last hx hb hK hP hD hS q84 1 eq84 rfl (vp_in_iff.mpr ⟨by decide, by decide⟩) dX9_passShip_195 (tp_k (.inl (κ 1, 4, .inr (.inl (vp_updL g69 (2 : Int32).toNatClampNeg z82)))) hD (tp_in hG y26 (by decide)) eq84 (fun f85 H locs hP hD hS g87 k86 => ?_))
          have hT := hT.up y26 g87 k86 (tp_o21 y26n)
          have hR := hR.up y26 (by decide) k86
          have hX := hX.up k86 (Or.inl (by rw [tp_iu y26]; decide))
          generalize (vp_updL g69 (2 : Int32).toNatClampNeg z82) = g88 at g87
          exact W.vret hx hb hr (fun t ht hW => ⟨⟨f85, rfl, ⟨hT, hR, hX⟩, by rw [ht]; exact hP, va_K.moved hW.alike hK, hD⟩, hS.F ht⟩) hS.2.2 dX9_passShip_196
        · refine lv_if_ne (tgt := 102) hx hb dX9_passShip_91 (by decide) (fun c89 => ?_) (fun c89 => ?_)
          · have ic89 : w62.toInt ≠ 0 := zi_ne rfl rfl c89
            refine lv_iload hx hb dX9_passShip_102 (lv_at hl 0 rfl) ?_
            refine lv_iconst (v := 1) hx hb dX9_passShip_104 (by decide) ?_
            refine tp_join 125 (fun H locs ls stk => stk = [] ∧ va_P (dC, dI) vwCl (va_pl L f58) H ∧ va_D A (va_pl L f58) ∧ va_S A s.heap H locs ∧ lv_has ls 5 [(4, .int w62), (3, .int w32), (2, .ref b21), (0, .ref h0), (1, .int a)]) ?_ (fun hj90 => ?_)
            · intro H locs ls stk hI
              refine tn_5 hI (fun e90 hP hD hS hl => ?_)
              clear hI; subst e90
              refine lv_iload hx hb dX9_passShip_125 (lv_at hl 0 rfl) ?_
              refine lv_iconst (v := 2) hx hb dX9_passShip_127 (by decide) ?_
              refine tp_join 149 (fun H locs ls stk => stk = [] ∧ va_P (dC, dI) vwCl (va_pl L f58) H ∧ va_D A (va_pl L f58) ∧ va_S A s.heap H locs ∧ lv_has ls 5 [(4, .int w62), (3, .int w32), (2, .ref b21), (0, .ref h0), (1, .int a)]) ?_ (fun hj91 => ?_)
              · intro H locs ls stk hI
                refine tn_5 hI (fun e90 hP hD hS hl => ?_)
                clear hI; subst e90
                refine lv_iload hx hb dX9_passShip_149 (lv_at hl 0 rfl) ?_
                refine lv_iconst (v := 3) hx hb dX9_passShip_151 (by decide) ?_
                refine lv_icmp_ne (tgt := 172) hx hb dX9_passShip_152 (by decide) (fun c92 => ?_) (fun c92 => ?_)
                · have ic92 : w62.toInt ≠ 3 := zi_ne rfl rfl c92
                  exact hj64 _ _ _ _ ⟨f58, rfl, hT, hR, hX, hP, hD, hS, lv_sub hl [0, 1, 2, 3, 4] rfl⟩
                · have ic92 : w62.toInt = 3 := zi_nef rfl rfl c92
                  refine lv_aload_n hx hb dX9_passShip_155 rfl (lv_at hl 3 rfl) ?_
                  have hf_93 : f42 h0 = .inr (9, [.ref (ρ h0 0), .int o2_x1, .int o2_x2, .int o2_x3]) := (hF43 _ (by rw [ht_h0]; decide)).trans hf_o2
                  have hf_94 : f50 h0 = .inr (9, [.ref (ρ h0 0), .int o2_x1, .int o2_x2, .int o2_x3]) := (hF51 _ (by rw [ht_h0]; decide)).trans hf_93
                  have hf_95 : f58 h0 = .inr (9, [.ref (ρ h0 0), .int o2_x1, .int o2_x2, .int o2_x3]) := (hF59 _ (by rw [ht_h0]; decide)).trans hf_94
                  refine tpk_pos (tp_in hG ht_h0 (by decide)) hf_95 (fun q96 eq96 => ?_)
                  have ro2_0 := tp_hu ro2_0
                  refine va_get (D := (dC, dI)) (ci := 9) (v := .int o2_x1) (C := RX9) (T := TX9) (N := 4) hx hb hts hfX9 hown hK hP q96 eq96 rfl 1 (by decide) (hts (.fieldLink RX9 25 "ColdShips$Watch" "hour" "I") wa_404) (fun _ h9 => h9) rfl dX9_passShip_156 ?_
                  refine lv_aload_n hx hb dX9_passShip_159 rfl (lv_at hl 2 rfl) ?_
                  refine va_getN (D := (dC, dI)) (ci := 5) (v := .ref (ρ b21 8)) (C := RX5) (T := TX5) (N := 17) hx hb hts hfX5 hown hK hP q61 eq61 rfl 8 (by decide) (va_Nw.use rfl (hN.1 (.fieldLinkNest RX9 97 "ColdShips$Ship" "orderWhats" "[I" "ColdShips") nzw_37)) (fun _ h9 => h9) rfl dX9_passShip_160 ?_
                  refine lv_iconst (v := 0) hx hb dX9_passShip_163 (by decide) ?_
                  refine tpk_20 hT y25 y25n (fun g98 hf_o97 => ?_)
                  refine tpk_pos (tp_in hG y25 (by decide)) hf_o97 (fun q99 eq99 => ?_)
                  refine va_iald hx hb hK hP q99 0 eq99 rfl (vp_in_iff.mpr ⟨by decide, by decide⟩) dX9_passShip_164 ?_
                  refine lv_topi (fun z100 ez100 => ?_)
                  refine lv_icmp_lt (tgt := 172) hx hb dX9_passShip_165 (by decide) (fun c101 => ?_) (fun c101 => ?_)
                  · have ic101 : o2_x1.toInt < z100.toInt := zi_lt rfl rfl c101
                    exact hj64 _ _ _ _ ⟨f58, rfl, hT, hR, hX, hP, hD, hS, lv_sub hl [0, 1, 2, 3, 4] rfl⟩
                  · have ic101 : o2_x1.toInt ≥ z100.toInt := zi_ltf rfl rfl c101
                    refine lv_aload_n hx hb dX9_passShip_168 rfl (lv_at hl 2 rfl) ?_
                    have hFc := tp_fr hD hS hA
                    refine va_callv (va_runV (As := []) (rest := []) ⟨hx, hb, hml, hown, hts⟩ (t_X5_endOrder l dC dI _ Ω κ τ ν ρ L f58 hG hT b21 hb22t) (cwV 0 hts gX9_passShip_X5_endOrder rfl rfl rfl ⟨rfl, pd_X5_endOrder⟩ ⟨Nat.le_of_ble_eq_true rfl, Nat.le_of_ble_eq_true rfl⟩) ⟨pz_blind, va_recv hK hP (ci := 5) (q0 := q61) rfl eq61, pz_pre hP hK hD hN⟩ rfl rfl hl.1 rfl (lv_room (Nat.le_of_ble_eq_true rfl)) dX9_passShip_169 ⟨Nat.le_of_ble_eq_true rfl, Nat.le_of_ble_eq_true rfl⟩) hS (fun q _ h => hFc q h) hFc (fun f104 t H1 locs ht hvm hw103 hB hz1 hk1 hS => ?_)
                    refine tn_3 hw103 (fun hT hF105 hw103p => ?_); clear hw103
                    have hR := hR.then hF105 (by decide)
                    have hX := hX.fr hF105 (by decide)
                    have hP := hB.1; rw [ht] at hP; have hD := tp_ad f104 hD; clear hB hFc hz1 hk1; subst ht; generalize t.heap = H at hP hS ⊢
                    exact hj64 _ _ _ _ ⟨f104, rfl, hT, hR, hX, hP, hD, hS, lv_sub hl [0, 1, 2, 3, 4] rfl⟩
              · refine lv_icmp_ne (tgt := 149) hx hb dX9_passShip_128 (by decide) (fun c106 => ?_) (fun c106 => ?_)
                · have ic106 : w62.toInt ≠ 2 := zi_ne rfl rfl c106
                  exact hj91 _ _ _ _ ⟨rfl, hP, hD, hS, lv_sub hl [0, 1, 2, 3, 4] rfl⟩
                · have ic106 : w62.toInt = 2 := zi_nef rfl rfl c106
                  refine lv_aload_n hx hb dX9_passShip_131 rfl (lv_at hl 3 rfl) ?_
                  refine lv_iload_n hx hb dX9_passShip_132 rfl (lv_at hl 4 rfl) ?_
                  refine lv_aload_n hx hb dX9_passShip_133 rfl (lv_at hl 2 rfl) ?_
                  have hf_107 : f42 h0 = .inr (9, [.ref (ρ h0 0), .int o2_x1, .int o2_x2, .int o2_x3]) := (hF43 _ (by rw [ht_h0]; decide)).trans hf_o2
                  have hf_108 : f50 h0 = .inr (9, [.ref (ρ h0 0), .int o2_x1, .int o2_x2, .int o2_x3]) := (hF51 _ (by rw [ht_h0]; decide)).trans hf_107
                  have hf_109 : f58 h0 = .inr (9, [.ref (ρ h0 0), .int o2_x1, .int o2_x2, .int o2_x3]) := (hF59 _ (by rw [ht_h0]; decide)).trans hf_108
                  refine tpk_pos (tp_in hG ht_h0 (by decide)) hf_109 (fun q110 eq110 => ?_)
                  refine pz_calli (va_runV (As := [.int a, .ref b21]) (rest := []) ⟨hx, hb, hml, hown, hts⟩ (t_X9_tonsMayGo l dC dI _ Ω κ τ ν ρ L f58 hG hT h0 a b21 ht_h0 hb22t) (cwV 2 hts gX9_passShip_X9_tonsMayGo rfl rfl rfl ⟨rfl, pd_X9_tonsMayGo⟩ ⟨Nat.le_of_ble_eq_true rfl, Nat.le_of_ble_eq_true rfl⟩) ⟨pz_blind, va_recv hK hP (ci := 9) (q0 := q110) rfl eq110, pz_pre hP hK hD hN⟩ rfl rfl hl.1 rfl (lv_room (Nat.le_of_ble_eq_true rfl)) dX9_passShip_134 ⟨Nat.le_of_ble_eq_true rfl, Nat.le_of_ble_eq_true rfl⟩) (fun r111 hw112 => ?_)
                  obtain ⟨hw112r, hw112p⟩ := hw112
                  refine lv_if_eq (tgt := 149) hx hb dX9_passShip_137 (by decide) (fun c113 => ?_) (fun c113 => ?_)
                  · have ic113 : r111.toInt = 0 := zi_eq rfl rfl c113
                    exact hj91 _ _ _ _ ⟨rfl, hP, hD, hS, lv_sub hl [0, 1, 2, 3, 4] rfl⟩
                  · have ic113 : r111.toInt ≠ 0 := zi_eqf rfl rfl c113
                    refine lv_aload_n hx hb dX9_passShip_140 rfl (lv_at hl 3 rfl) ?_
                    refine lv_iload_n hx hb dX9_passShip_141 rfl (lv_at hl 4 rfl) ?_
                    refine lv_aload_n hx hb dX9_passShip_142 rfl (lv_at hl 2 rfl) ?_
                    have hFc := tp_fr hD hS hA
                    refine va_callv (va_runV (As := [.int a, .ref b21]) (rest := []) ⟨hx, hb, hml, hown, hts⟩ (t_X9_land l dC dI _ Ω κ τ ν ρ L f58 hG hT h0 a b21 ht_h0 hb22t) (cwV 2 hts gX9_passShip_X9_land rfl rfl rfl ⟨rfl, pd_X9_land⟩ ⟨Nat.le_of_ble_eq_true rfl, Nat.le_of_ble_eq_true rfl⟩) ⟨pz_blind, va_recv hK hP (ci := 9) (q0 := q110) rfl eq110, pz_pre hP hK hD hN⟩ rfl rfl hl.1 rfl (lv_room (Nat.le_of_ble_eq_true rfl)) dX9_passShip_143 ⟨Nat.le_of_ble_eq_true rfl, Nat.le_of_ble_eq_true rfl⟩) hS (fun q _ h => hFc q h) hFc (fun f116 t H1 locs ht hvm hw115 hB hz1 hk1 hS => ?_)
                    refine tn_3 hw115 (fun hT hF117 hw115p => ?_); clear hw115
                    have hR := hR.then hF117 (by decide)
                    have hw115x := hw115p
                    have hX := hX.th hw115x (fun n q9 => by have q8 : n = 17 := q9; show n = 17; omega)
                    have hP := hB.1; rw [ht] at hP; have hD := tp_ad f116 hD; clear hB hFc hz1 hk1; subst ht; generalize t.heap = H at hP hS ⊢
                    refine lv_goto (tgt := 172) hx hb dX9_passShip_146 (by decide) ?_
                    exact hj64 _ _ _ _ ⟨f116, rfl, hT, hR, hX, hP, hD, hS, lv_sub hl [0, 1, 2, 3, 4] rfl⟩
            · refine lv_icmp_ne (tgt := 125) hx hb dX9_passShip_105 (by decide) (fun c118 => ?_) (fun c118 => ?_)
              · have ic118 : w62.toInt ≠ 1 := zi_ne rfl rfl c118
                exact hj90 _ _ _ _ ⟨rfl, hP, hD, hS, lv_sub hl [0, 1, 2, 3, 4] rfl⟩
              · have ic118 : w62.toInt = 1 := zi_nef rfl rfl c118
                refine lv_aload_n hx hb dX9_passShip_108 rfl (lv_at hl 3 rfl) ?_
                refine lv_iload_n hx hb dX9_passShip_109 rfl (lv_at hl 4 rfl) ?_
                refine lv_aload_n hx hb dX9_passShip_110 rfl (lv_at hl 2 rfl) ?_
                have hf_119 : f42 h0 = .inr (9, [.ref (ρ h0 0), .int o2_x1, .int o2_x2, .int o2_x3]) := (hF43 _ (by rw [ht_h0]; decide)).trans hf_o2
                have hf_120 : f50 h0 = .inr (9, [.ref (ρ h0 0), .int o2_x1, .int o2_x2, .int o2_x3]) := (hF51 _ (by rw [ht_h0]; decide)).trans hf_119
                have hf_121 : f58 h0 = .inr (9, [.ref (ρ h0 0), .int o2_x1, .int o2_x2, .int o2_x3]) := (hF59 _ (by rw [ht_h0]; decide)).trans hf_120
                refine tpk_pos (tp_in hG ht_h0 (by decide)) hf_121 (fun q122 eq122 => ?_)
                refine pz_calli (va_runV (As := [.int a, .ref b21]) (rest := []) ⟨hx, hb, hml, hown, hts⟩ (t_X9_tonsMayGo l dC dI _ Ω κ τ ν ρ L f58 hG hT h0 a b21 ht_h0 hb22t) (cwV 2 hts gX9_passShip_X9_tonsMayGo rfl rfl rfl ⟨rfl, pd_X9_tonsMayGo⟩ ⟨Nat.le_of_ble_eq_true rfl, Nat.le_of_ble_eq_true rfl⟩) ⟨pz_blind, va_recv hK hP (ci := 9) (q0 := q122) rfl eq122, pz_pre hP hK hD hN⟩ rfl rfl hl.1 rfl (lv_room (Nat.le_of_ble_eq_true rfl)) dX9_passShip_111 ⟨Nat.le_of_ble_eq_true rfl, Nat.le_of_ble_eq_true rfl⟩) (fun r123 hw124 => ?_)
                obtain ⟨hw124r, hw124p⟩ := hw124
                refine lv_if_eq (tgt := 125) hx hb dX9_passShip_114 (by decide) (fun c125 => ?_) (fun c125 => ?_)
                · have ic125 : r123.toInt = 0 := zi_eq rfl rfl c125
                  exact hj90 _ _ _ _ ⟨rfl, hP, hD, hS, lv_sub hl [0, 1, 2, 3, 4] rfl⟩
                · have ic125 : r123.toInt ≠ 0 := zi_eqf rfl rfl c125
                  refine lv_aload_n hx hb dX9_passShip_117 rfl (lv_at hl 3 rfl) ?_
                  refine lv_aload_n hx hb dX9_passShip_118 rfl (lv_at hl 2 rfl) ?_
                  have hFc := tp_fr hD hS hA
                  refine va_callv (va_runV (As := [.ref b21]) (rest := []) ⟨hx, hb, hml, hown, hts⟩ (t_X9_load l dC dI _ Ω κ τ ν ρ L f58 hG hT h0 b21 ht_h0 hb22t) (cwV 1 hts gX9_passShip_X9_load rfl rfl rfl ⟨rfl, pd_X9_load⟩ ⟨Nat.le_of_ble_eq_true rfl, Nat.le_of_ble_eq_true rfl⟩) ⟨pz_blind, va_recv hK hP (ci := 9) (q0 := q122) rfl eq122, pz_pre hP hK hD hN⟩ rfl rfl hl.1 rfl (lv_room (Nat.le_of_ble_eq_true rfl)) dX9_passShip_119 ⟨Nat.le_of_ble_eq_true rfl, Nat.le_of_ble_eq_true rfl⟩) hS (fun q _ h => hFc q h) hFc (fun f128 t H1 locs ht hvm hw127 hB hz1 hk1 hS => ?_)
                  refine tn_3 hw127 (fun hT hF129 hw127p => ?_); clear hw127
                  have hR := hR.then hF129 (by decide)
                  have hX := hX.fr hF129 (by decide)
                  have hP := hB.1; rw [ht] at hP; have hD := tp_ad f128 hD; clear hB hFc hz1 hk1; subst ht; generalize t.heap = H at hP hS ⊢
                  refine lv_goto (tgt := 172) hx hb dX9_passShip_122 (by decide) ?_
                  exact hj64 _ _ _ _ ⟨f128, rfl, hT, hR, hX, hP, hD, hS, lv_sub hl [0, 1, 2, 3, 4] rfl⟩
          · have ic89 : w62.toInt = 0 := zi_nef rfl rfl c89
            refine lv_aload_n hx hb dX9_passShip_94 rfl (lv_at hl 3 rfl) ?_
            refine lv_aload_n hx hb dX9_passShip_95 rfl (lv_at hl 2 rfl) ?_
            have hf_130 : f42 h0 = .inr (9, [.ref (ρ h0 0), .int o2_x1, .int o2_x2, .int o2_x3]) := (hF43 _ (by rw [ht_h0]; decide)).trans hf_o2
            have hf_131 : f50 h0 = .inr (9, [.ref (ρ h0 0), .int o2_x1, .int o2_x2, .int o2_x3]) := (hF51 _ (by rw [ht_h0]; decide)).trans hf_130
            have hf_132 : f58 h0 = .inr (9, [.ref (ρ h0 0), .int o2_x1, .int o2_x2, .int o2_x3]) := (hF59 _ (by rw [ht_h0]; decide)).trans hf_131
            refine tpk_pos (tp_in hG ht_h0 (by decide)) hf_132 (fun q133 eq133 => ?_)
            have hFc := tp_fr hD hS hA
            refine va_callv (va_runV (As := [.ref b21]) (rest := []) ⟨hx, hb, hml, hown, hts⟩ (t_X9_sail l dC dI _ Ω κ τ ν ρ L f58 hG hT h0 b21 ht_h0 hb22t) (cwV 1 hts gX9_passShip_X9_sail rfl rfl rfl ⟨rfl, pd_X9_sail⟩ ⟨Nat.le_of_ble_eq_true rfl, Nat.le_of_ble_eq_true rfl⟩) ⟨pz_blind, va_recv hK hP (ci := 9) (q0 := q133) rfl eq133, pz_pre hP hK hD hN⟩ rfl rfl hl.1 rfl (lv_room (Nat.le_of_ble_eq_true rfl)) dX9_passShip_96 ⟨Nat.le_of_ble_eq_true rfl, Nat.le_of_ble_eq_true rfl⟩) hS (fun q _ h => hFc q h) hFc (fun f136 t H1 locs ht hvm hw135 hB hz1 hk1 hS => ?_)
            refine tn_3 hw135 (fun hT hF137 hw135p => ?_); clear hw135
            have hR := hR.then hF137 (by decide)
            have hX := hX.fr hF137 (by decide)
            have hP := hB.1; rw [ht] at hP; have hD := tp_ad f136 hD; clear hB hFc hz1 hk1; subst ht; generalize t.heap = H at hP hS ⊢
            refine lv_goto (tgt := 172) hx hb dX9_passShip_99 (by decide) ?_
            exact hj64 _ _ _ _ ⟨f136, rfl, hT, hR, hX, hP, hD, hS, lv_sub hl [0, 1, 2, 3, 4] rfl⟩
      · refine lv_if_le (tgt := 86) hx hb dX9_passShip_74 (by decide) (fun c138 => ?_) (fun c138 => ?_)
        · have ic138 : o60_x6.toInt ≤ 0 := zi_le rfl rfl c138
          refine lv_iconst (v := (-1)) hx hb dX9_passShip_86 (by decide) ?_
          exact hj63 _ _ _ _ ⟨(-1), rfl, hP, hD, hS, lv_sub hl [0, 1, 2, 3] rfl⟩
        · have ic138 : o60_x6.toInt > 0 := zi_lef rfl rfl c138
          refine lv_aload_n hx hb dX9_passShip_77 rfl (lv_at hl 1 rfl) ?_
          refine va_getN (D := (dC, dI)) (ci := 5) (v := .ref (ρ b21 7)) (C := RX5) (T := TX5) (N := 17) hx hb hts hfX5 hown hK hP q61 eq61 rfl 7 (by decide) (va_Nw.use rfl (hN.1 (.fieldLinkNest RX9 79 "ColdShips$Ship" "orderSorts" "[I" "ColdShips") nzw_36)) (fun _ h9 => h9) rfl dX9_passShip_78 ?_
          refine lv_iconst (v := 0) hx hb dX9_passShip_81 (by decide) ?_
          refine tpk_20 hT y24 y24n (fun g140 hf_o139 => ?_)
          refine tpk_pos (tp_in hG y24 (by decide)) hf_o139 (fun q141 eq141 => ?_)
          refine va_iald hx hb hK hP q141 0 eq141 rfl (vp_in_iff.mpr ⟨by decide, by decide⟩) dX9_passShip_82 ?_
          refine lv_topi (fun z142 ez142 => ?_)
          refine lv_goto (tgt := 87) hx hb dX9_passShip_83 (by decide) ?_
          exact hj63 _ _ _ _ ⟨z142, rfl, hP, hD, hS, lv_sub hl [0, 1, 2, 3] rfl⟩
    · refine lv_if_eq (tgt := 61) hx hb dX9_passShip_51 (by decide) (fun c143 => ?_) (fun c143 => ?_)
      · have ic143 : w32.toInt = 0 := zi_eq rfl rfl c143
        refine lv_aload_n hx hb dX9_passShip_61 rfl (lv_at hl 1 rfl) ?_
        have hf_144 : f50 b21 = .inr (5, [.ref (ρ b21 0), .int o30_x1, .int o30_x2, .int o30_x3, .int o30_x4, .int o30_x5, .int o30_x6, .ref (ρ b21 7), .ref (ρ b21 8), .ref (ρ b21 9), .int o30_x10, .int o30_x11, .int o30_x12, .ref (ρ b21 13), .int o30_x14, .ref (ρ b21 15), .ref (ρ b21 16)]) := (hF51 _ (by rw [hb22t]; decide)).trans hf_44
        refine tpk_pos (tp_in hG hb22t (by decide)) hf_144 (fun q145 eq145 => ?_)
        refine va_getN (D := (dC, dI)) (ci := 5) (v := .int o30_x1) (C := RX5) (T := TX5) (N := 17) hx hb hts hfX5 hown hK hP q145 eq145 rfl 1 (by decide) (va_Nw.use rfl (hN.1 (.fieldLinkNest RX9 70 "ColdShips$Ship" "fuel" "I" "ColdShips") nzw_24)) (fun _ h9 => h9) rfl dX9_passShip_62 ?_
        refine lv_iconst (v := 4) hx hb dX9_passShip_65 (by decide) ?_
        refine lv_idiv hx hb dX9_passShip_66 (by decide) ?_
        refine lv_topi (fun z146 ez146 => ?_)
        exact hj53 _ _ _ _ ⟨z146, rfl, hP, hD, hS, lv_sub hl [0, 1, 2, 3] rfl⟩
      · have ic143 : w32.toInt ≠ 0 := zi_eqf rfl rfl c143
        refine lv_aload_n hx hb dX9_passShip_54 rfl (lv_at hl 1 rfl) ?_
        have hf_147 : f50 b21 = .inr (5, [.ref (ρ b21 0), .int o30_x1, .int o30_x2, .int o30_x3, .int o30_x4, .int o30_x5, .int o30_x6, .ref (ρ b21 7), .ref (ρ b21 8), .ref (ρ b21 9), .int o30_x10, .int o30_x11, .int o30_x12, .ref (ρ b21 13), .int o30_x14, .ref (ρ b21 15), .ref (ρ b21 16)]) := (hF51 _ (by rw [hb22t]; decide)).trans hf_44
        refine tpk_pos (tp_in hG hb22t (by decide)) hf_147 (fun q148 eq148 => ?_)
        refine va_getN (D := (dC, dI)) (ci := 5) (v := .int o30_x1) (C := RX5) (T := TX5) (N := 17) hx hb hts hfX5 hown hK hP q148 eq148 rfl 1 (by decide) (va_Nw.use rfl (hN.1 (.fieldLinkNest RX9 70 "ColdShips$Ship" "fuel" "I" "ColdShips") nzw_24)) (fun _ h9 => h9) rfl dX9_passShip_55 ?_
        refine lv_goto (tgt := 67) hx hb dX9_passShip_58 (by decide) ?_
        exact hj53 _ _ _ _ ⟨o30_x1, rfl, hP, hD, hS, lv_sub hl [0, 1, 2, 3] rfl⟩
  · refine lv_if_le (tgt := 21) hx hb dX9_passShip_14 (by decide) (fun c149 => ?_) (fun c149 => ?_)
    · have ic149 : o30_x3.toInt ≤ 0 := zi_le rfl rfl c149
      refine lv_iconst (v := 0) hx hb dX9_passShip_21 (by decide) ?_
      exact hj33 _ _ _ _ ⟨0, rfl, (by have : (0 : Int32).toInt = 0 := rfl; omega), hP, hD, hS, lv_sub hl [0, 1, 2] rfl⟩
    · have ic149 : o30_x3.toInt > 0 := zi_lef rfl rfl c149
      refine lv_iconst (v := 1) hx hb dX9_passShip_17 (by decide) ?_
      refine lv_goto (tgt := 22) hx hb dX9_passShip_18 (by decide) ?_
      exact hj33 _ _ _ _ ⟨1, rfl, (by have : (1 : Int32).toInt = 1 := rfl; omega), hP, hD, hS, lv_sub hl [0, 1, 2] rfl⟩
end
section
set_option maxHeartbeats 4000000 in
set_option maxRecDepth 100000 in
theorem t_X9_passHour (l : Launch) (dC : Nat → ClassId) (dI : Nat → Nat → Nat) (sz : Nat) (Ω : Nat → Nat → (Nat → Nat) → va_E → Prop) (κ : Nat → ClassId) (τ ν : Nat → Nat) (ρ : Nat → Nat → Nat) (L : List Nat) (f : Nat → va_E) (hG : tp_G τ ν ρ L) (hT : tp_T Ω κ τ ν ρ f) (h0 : Nat) (ht_h0 : τ h0 = 10) (ρ_h0_0_x0 : Int32) (ρ_h0_0_x1 : Int32) (ρ_h0_0_x2 : Int32) (ρ_h0_0_x3 : Int32) (ρ_h0_0_x4 : Int32) (ρ_h0_0_x5 : Int32) (ρ_h0_0_x6 : Int32) (hf_ρ_h0_0 : f (ρ h0 0) = .inr (10, [.int ρ_h0_0_x0, .int ρ_h0_0_x1, .int ρ_h0_0_x2, .int ρ_h0_0_x3, .int ρ_h0_0_x4, .int ρ_h0_0_x5, .int ρ_h0_0_x6, .ref (ρ (ρ h0 0) 7), .ref (ρ (ρ h0 0) 8), .ref (ρ (ρ h0 0) 9), .ref (ρ (ρ h0 0) 10), .ref (ρ (ρ h0 0) 11), .ref (ρ (ρ h0 0) 12), .ref (ρ (ρ h0 0) 13), .ref (ρ (ρ h0 0) 14), .ref (ρ (ρ h0 0) 15), .ref (ρ (ρ h0 0) 16), .ref (ρ (ρ h0 0) 17), .ref (ρ (ρ h0 0) 18)])) : Met l yX9_passHour wqX9_passHour ({ frames := 8, cells := 0, slots := 0, locals := 2800 }) (va_Pc [.ref h0] (pz_B dC dI (tp_K κ) (va_pl L f) sz)) (va_Qv (fun (f1 : Nat → va_E) => tp_T Ω κ τ ν ρ f1 ∧ tp_F τ [5, 6, 8, 9, 10, 11, 20, 21] f f1 ∧ tp_X τ ρ (fun n => (n = 0 ∨ n = 17)) f f1 ∧ ((((2399 < ρ_h0_0_x0.toInt) → (tp_fld (f1 (ρ h0 0)) 0) = ρ_h0_0_x0.toInt) ∧ (¬ (2399 < ρ_h0_0_x0.toInt) → (tp_fld (f1 (ρ h0 0)) 0) = ρ_h0_0_x0.toInt + 1))) ∧ ((tp_fld (f1 (ρ h0 0)) 1) = ρ_h0_0_x1.toInt) ∧ ((tp_fld (f1 (ρ h0 0)) 2) = ρ_h0_0_x2.toInt) ∧ ((tp_fld (f1 (ρ h0 0)) 3) = ρ_h0_0_x3.toInt) ∧ ((tp_fld (f1 (ρ h0 0)) 4) = ρ_h0_0_x4.toInt) ∧ ((tp_fld (f1 (ρ h0 0)) 5) = ρ_h0_0_x5.toInt) ∧ ((tp_fld (f1 (ρ h0 0)) 6) = ρ_h0_0_x6.toInt)) (fun (f1 : Nat → va_E) (t : State) => pz_E dC dI (tp_K κ) (va_A (va_pl L f) sz) (va_pl L f1) t) (va_A (va_pl L f) sz)) 0 0 (va_A (va_pl L f) sz) := by
  refine Met.ofW (cc := cX9_passHour) (maxL := 2) (ret := none) (by decide) rfl ?_
  intro p e s m args below meth c s₁ B hml hv
  obtain ⟨rfl, hsz, hP, hK, hD0, hN⟩ := hv
  have hx := B.exec
  have hb := B.bytes
  have hr := B.returns
  have hts := fun (w : Cond) (h : w ∈ WALL) => atoms_spec (ws := wqX9_passHour) B.pre w (List.mem_cons_of_mem _ h)
  have hown : s.vm.findClass RX9 = some m.cls := findClass_of_methodNamed B.named
  have hlocks := B.notSynchronized
  subst hsz
  have hD := hD0.self (sz := s.heap.size)
  generalize hAe : va_A (va_pl L f) s.heap.size = A at hD ⊢
  have hA : ∀ q : Nat, s.heap.size ≤ q → A q := fun q h => by rw [← hAe]; exact Or.inr h
  have hS : va_S A s.heap s.heap [] := va_S.rf
  have hR : tp_F τ [5, 6, 8, 9, 10, 11, 20, 21] f f := tp_F.rf
  have hX : tp_X τ ρ (fun n => (n = 0 ∨ n = 17)) f f := tp_X.rf
  have hl := lv_entry ([.ref h0]) (n := 2) (Nat.le_of_ble_eq_true rfl)
  rw [lg_entry_eq]
  generalize (lg_sl ([.ref h0]) ++ List.replicate (2 - (lg_sl ([.ref h0])).length) Slot.unset).toArray = ls at hl ⊢
  have hl : lv_has ls 2 [(0, .ref h0)] := hl
  have ⟨y1, y1l⟩ := tpg_10 hG ht_h0
  refine tpk_11 hT y1 (fun ρ_h0_0z_x0 ρ_h0_0z_x1 ρ_h0_0z_x2 ρ_h0_0z_x3 ρ_h0_0z_x4 ρ_h0_0z_x5 ρ_h0_0z_x6 hfz_ρ_h0_0 rzρ_h0_0_0 rzρ_h0_0_1 rzρ_h0_0_2 rzρ_h0_0_3 => ?_)
  obtain ⟨rfl, rfl, rfl, rfl, rfl, rfl, rfl⟩ := tp_same11 hf_ρ_h0_0 hfz_ρ_h0_0
  refine lv_aload_n hx hb dX9_passHour_0 rfl (lv_at hl 0 rfl) ?_
  refine tpk_10 hT ht_h0 (fun o2_x1 o2_x2 o2_x3 hf_o2 ro2_0 ro2_1 => ?_)
  refine tpk_pos (tp_in hG ht_h0 (by decide)) hf_o2 (fun q3 eq3 => ?_)
  refine va_get (D := (dC, dI)) (ci := 9) (v := .ref (ρ h0 0)) (C := RX9) (T := TX9) (N := 4) hx hb hts hfX9 hown hK hP q3 eq3 rfl 0 (by decide) (hts (.fieldLink RX9 9 "ColdShips$Watch" "world" "LColdShips$World;") wa_114) (fun _ h9 => h9) rfl dX9_passHour_1 ?_
  refine tpk_pos (tp_in hG y1 (by decide)) hf_ρ_h0_0 (fun q4 eq4 => ?_)
  have rzρ_h0_0_0 := tp_hu rzρ_h0_0_0
  refine va_getN (D := (dC, dI)) (ci := 10) (v := .int ρ_h0_0_x0) (C := RX10) (T := TX10) (N := 19) hx hb hts hfX10 hown hK hP q4 eq4 rfl 0 (by decide) (va_Nw.use rfl (hN.1 (.fieldLinkNest RX9 15 "ColdShips$World" "now" "I" "ColdShips") nzw_48)) (fun _ h9 => h9) rfl dX9_passHour_4 ?_
  refine pz_calli (va_runSN (As := [.int ρ_h0_0_x0]) (rest := []) ⟨hx, hb, hml, hown, hts⟩ (t_X11_isHour l dC dI _ ρ_h0_0_x0 (ρ_h0_0_x0.toInt) rfl) ⟨(va_cnB (host := "ColdShips") 1 hts ggX9_passHour_X11_isHour rfl rfl rfl (hN.1 (.methodLinkNest RX9 21 yX11_isHour "ColdShips") nzw_109) (hts (.initialized RX11) wa_2) pd_X11_isHour ⟨Nat.le_of_ble_eq_true rfl, Nat.le_of_ble_eq_true rfl⟩), (hts (.static yX11_isHour) wa_324), trivial⟩ ⟨pz_blind, pz_pre pz_P0 (hK.sub (tys' := []) [] rfl) (pz_D0 (A := fun _ => True)) hN⟩ rfl rfl hl.1 rfl (lv_room (Nat.le_of_ble_eq_true rfl)) dX9_passHour_7 ⟨Nat.le_of_ble_eq_true rfl, Nat.le_of_ble_eq_true rfl⟩) (fun r5 hw6 => ?_)
  obtain ⟨hw6r, hw6p⟩ := hw6
  refine lv_if_ne (tgt := 14) hx hb dX9_passHour_10 (by decide) (fun c7 => ?_) (fun c7 => ?_)
  · have ic7 : r5.toInt ≠ 0 := zi_ne rfl rfl c7
    have p8 : 0 ≤ (ρ_h0_0_x0.toInt) ∧ (ρ_h0_0_x0.toInt) ≤ 2399 := (tp_cond.yes hw6p) (by omega)
    clear hw6r ic7
    refine lv_aload_n hx hb dX9_passHour_14 rfl (lv_at hl 0 rfl) ?_
    refine lv_aload_n hx hb dX9_passHour_15 rfl (lv_at hl 0 rfl) ?_
    refine va_get (D := (dC, dI)) (ci := 9) (v := .ref (ρ h0 0)) (C := RX9) (T := TX9) (N := 4) hx hb hts hfX9 hown hK hP q3 eq3 rfl 0 (by decide) (hts (.fieldLink RX9 9 "ColdShips$Watch" "world" "LColdShips$World;") wa_114) (fun _ h9 => h9) rfl dX9_passHour_16 ?_
    refine va_getN (D := (dC, dI)) (ci := 10) (v := .int ρ_h0_0_x0) (C := RX10) (T := TX10) (N := 19) hx hb hts hfX10 hown hK hP q4 eq4 rfl 0 (by decide) (va_Nw.use rfl (hN.1 (.fieldLinkNest RX9 15 "ColdShips$World" "now" "I" "ColdShips") nzw_48)) (fun _ h9 => h9) rfl dX9_passHour_19 ?_
    refine va_put (D := (dC, dI)) (ci := 9) (v := .int ρ_h0_0_x0) (ty := .int) (C := RX9) (T := TX9) (N := 4) hx hb hts hfX9 tyX9 tyX9_ok nmX9 hown hK hP hD hS q3 eq3 rfl 1 (by decide) (hts (.fieldLink RX9 25 "ColdShips$Watch" "hour" "I") wa_404) (fun _ h9 => h9) rfl (tyX9_ok 1 (by decide)) rfl rfl (Nat.le_of_ble_eq_true rfl) dX9_passHour_22 (tp_k (.inr (9, [.ref (ρ h0 0), .int ρ_h0_0_x0, .int o2_x2, .int o2_x3])) hD (tp_in hG ht_h0 (by decide)) eq3 (fun f9 H locs hP hD hS g11 k10 => ?_))
    have hT := hT.up ht_h0 g11 k10 ⟨_, _, _, rfl, (by first | decide | omega | (omega)), ro2_1⟩
    have hR := hR.up ht_h0 (by decide) k10
    have hX := hX.up k10 (Or.inl (by rw [ht_h0]; decide))
    refine lv_aload_n hx hb dX9_passHour_25 rfl (lv_at hl 0 rfl) ?_
    refine lv_aload_n hx hb dX9_passHour_26 rfl (lv_at hl 0 rfl) ?_
    refine tpk_pos (tp_in hG ht_h0 (by decide)) g11 (fun q12 eq12 => ?_)
    refine va_get (D := (dC, dI)) (ci := 9) (v := .ref (ρ h0 0)) (C := RX9) (T := TX9) (N := 4) hx hb hts hfX9 hown hK hP q12 eq12 rfl 0 (by decide) (hts (.fieldLink RX9 9 "ColdShips$Watch" "world" "LColdShips$World;") wa_114) (fun _ h9 => h9) rfl dX9_passHour_27 ?_
    have hf_13 : f9 (ρ h0 0) = .inr (10, [.int ρ_h0_0_x0, .int ρ_h0_0_x1, .int ρ_h0_0_x2, .int ρ_h0_0_x3, .int ρ_h0_0_x4, .int ρ_h0_0_x5, .int ρ_h0_0_x6, .ref (ρ (ρ h0 0) 7), .ref (ρ (ρ h0 0) 8), .ref (ρ (ρ h0 0) 9), .ref (ρ (ρ h0 0) 10), .ref (ρ (ρ h0 0) 11), .ref (ρ (ρ h0 0) 12), .ref (ρ (ρ h0 0) 13), .ref (ρ (ρ h0 0) 14), .ref (ρ (ρ h0 0) 15), .ref (ρ (ρ h0 0) 16), .ref (ρ (ρ h0 0) 17), .ref (ρ (ρ h0 0) 18)]) := (k10 _ (tp_ne y1 ht_h0 (by decide))).trans hf_ρ_h0_0
    refine tpk_pos (tp_in hG y1 (by decide)) hf_13 (fun q14 eq14 => ?_)
    refine va_getN (D := (dC, dI)) (ci := 10) (v := .ref (ρ (ρ h0 0) 8)) (C := RX10) (T := TX10) (N := 19) hx hb hts hfX10 hown hK hP q14 eq14 rfl 8 (by decide) (va_Nw.use rfl (hN.1 (.fieldLinkNest RX9 28 "ColdShips$World" "seas" "[I" "ColdShips") nzw_63)) (fun _ h9 => h9) rfl dX9_passHour_30 ?_
    refine lv_aload_n hx hb dX9_passHour_33 rfl (lv_at hl 0 rfl) ?_
    refine va_get (D := (dC, dI)) (ci := 9) (v := .int ρ_h0_0_x0) (C := RX9) (T := TX9) (N := 4) hx hb hts hfX9 hown hK hP q12 eq12 rfl 1 (by decide) (hts (.fieldLink RX9 25 "ColdShips$Watch" "hour" "I") wa_404) (fun _ h9 => h9) rfl dX9_passHour_34 ?_
    refine lv_bipush (v := 24) hx hb dX9_passHour_37 (by decide) ?_
    refine lv_idiv hx hb dX9_passHour_39 (by decide) ?_
    refine lv_topi (fun z15 ez15 => ?_)
    have iz15 : z15.toInt = ρ_h0_0_x0.toInt / 24 := zi_div ez15 rfl (show (24 : Int32).toInt = 24 from rfl) (by omega) (by omega)
    refine tgk_11 hG y1 (fun y16 y16n y17 y17n y18 y19 y20 y21 y21m y21l y22 y22m y22l y23 y23m y23l y24 y24w y24m y24l y25 y25w y25m y25l y26 y26w y26m y26l y27 y27w y27m y27l => ?_)
    refine tpk_20 hT y17 y17n (fun g29 hf_o28 => ?_)
    refine tpk_pos (tp_in hG y17 (by decide)) hf_o28 (fun q30 eq30 => ?_)
    refine va_iald hx hb hK hP q30 0 eq30 rfl (vp_in_iff.mpr ⟨by omega, by omega⟩) dX9_passHour_40 ?_
    refine lv_topi (fun z31 ez31 => ?_)
    refine va_put (D := (dC, dI)) (ci := 9) (v := .int z31) (ty := .int) (C := RX9) (T := TX9) (N := 4) hx hb hts hfX9 tyX9 tyX9_ok nmX9 hown hK hP hD hS q12 eq12 rfl 2 (by decide) (hts (.fieldLink RX9 32 "ColdShips$Watch" "sea" "I") wa_405) (fun _ h9 => h9) rfl (tyX9_ok 2 (by decide)) rfl rfl (Nat.le_of_ble_eq_true rfl) dX9_passHour_41 (tp_k (.inr (9, [.ref (ρ h0 0), .int ρ_h0_0_x0, .int z31, .int o2_x3])) hD (tp_in hG ht_h0 (by decide)) eq12 (fun f32 H locs hP hD hS g34 k33 => ?_))
    have hT := hT.up ht_h0 g34 k33 ⟨_, _, _, rfl, (by first | decide | omega | (omega)), ro2_1⟩
    have hR := hR.up ht_h0 (by decide) k33
    have hX := hX.up k33 (Or.inl (by rw [ht_h0]; decide))
    refine lv_aload_n hx hb dX9_passHour_44 rfl (lv_at hl 0 rfl) ?_
    refine lv_iconst (v := 0) hx hb dX9_passHour_45 (by decide) ?_
    refine tpk_pos (tp_in hG ht_h0 (by decide)) g34 (fun q35 eq35 => ?_)
    refine va_put (D := (dC, dI)) (ci := 9) (v := .int 0) (ty := .boolean) (C := RX9) (T := TX9) (N := 4) hx hb hts hfX9 tyX9 tyX9_ok nmX9 hown hK hP hD hS q35 eq35 rfl 3 (by decide) (hts (.fieldLink RX9 35 "ColdShips$Watch" "turnTaken" "Z") wa_406) (fun _ h9 => h9) rfl (tyX9_ok 3 (by decide)) rfl rfl (Nat.le_of_ble_eq_true rfl) dX9_passHour_46 (tp_k (.inr (9, [.ref (ρ h0 0), .int ρ_h0_0_x0, .int z31, .int 0])) hD (tp_in hG ht_h0 (by decide)) eq35 (fun f36 H locs hP hD hS g38 k37 => ?_))
    have hT := hT.up ht_h0 g38 k37 ⟨_, _, _, rfl, (by first | decide | omega | (have : (0 : Int32).toInt = 0 := rfl; omega)), (by first | decide | omega | (have : (0 : Int32).toInt = 0 := rfl; omega))⟩
    have hR := hR.up ht_h0 (by decide) k37
    have hX := hX.up k37 (Or.inl (by rw [ht_h0]; decide))
    refine lv_iconst (v := 0) hx hb dX9_passHour_49 (by decide) ?_
    refine lv_istore_n (lv' := [(1, .int 0), (0, .ref h0)]) hx hb dX9_passHour_50 rfl hl (by decide) rfl (fun ls hl => ?_)
    have hf_40 : f32 (ρ h0 0) = .inr (10, [.int ρ_h0_0_x0, .int ρ_h0_0_x1, .int ρ_h0_0_x2, .int ρ_h0_0_x3, .int ρ_h0_0_x4, .int ρ_h0_0_x5, .int ρ_h0_0_x6, .ref (ρ (ρ h0 0) 7), .ref (ρ (ρ h0 0) 8), .ref (ρ (ρ h0 0) 9), .ref (ρ (ρ h0 0) 10), .ref (ρ (ρ h0 0) 11), .ref (ρ (ρ h0 0) 12), .ref (ρ (ρ h0 0) 13), .ref (ρ (ρ h0 0) 14), .ref (ρ (ρ h0 0) 15), .ref (ρ (ρ h0 0) 16), .ref (ρ (ρ h0 0) 17), .ref (ρ (ρ h0 0) 18)]) := (k33 _ (tp_ne y1 ht_h0 (by decide))).trans hf_13
    have hf_41 : f36 (ρ h0 0) = .inr (10, [.int ρ_h0_0_x0, .int ρ_h0_0_x1, .int ρ_h0_0_x2, .int ρ_h0_0_x3, .int ρ_h0_0_x4, .int ρ_h0_0_x5, .int ρ_h0_0_x6, .ref (ρ (ρ h0 0) 7), .ref (ρ (ρ h0 0) 8), .ref (ρ (ρ h0 0) 9), .ref (ρ (ρ h0 0) 10), .ref (ρ (ρ h0 0) 11), .ref (ρ (ρ h0 0) 12), .ref (ρ (ρ h0 0) 13), .ref (ρ (ρ h0 0) 14), .ref (ρ (ρ h0 0) 15), .ref (ρ (ρ h0 0) 16), .ref (ρ (ρ h0 0) 17), .ref (ρ (ρ h0 0) 18)]) := (k37 _ (tp_ne y1 ht_h0 (by decide))).trans hf_40
    refine pz_loop (fun n0 H locs ls => ∃ f43 : Nat → va_E, ∃ w39 : Int32, n0 = (6 - (w39.toInt)).toNat ∧ tp_T Ω κ τ ν ρ f43 ∧ tp_F τ [5, 6, 8, 9, 10, 11, 20, 21] f f43 ∧ tp_X τ ρ (fun n => (n = 0 ∨ n = 17)) f f43 ∧ f43 (ρ h0 0) = .inr (10, [.int ρ_h0_0_x0, .int ρ_h0_0_x1, .int ρ_h0_0_x2, .int ρ_h0_0_x3, .int ρ_h0_0_x4, .int ρ_h0_0_x5, .int ρ_h0_0_x6, .ref (ρ (ρ h0 0) 7), .ref (ρ (ρ h0 0) 8), .ref (ρ (ρ h0 0) 9), .ref (ρ (ρ h0 0) 10), .ref (ρ (ρ h0 0) 11), .ref (ρ (ρ h0 0) 12), .ref (ρ (ρ h0 0) 13), .ref (ρ (ρ h0 0) 14), .ref (ρ (ρ h0 0) 15), .ref (ρ (ρ h0 0) 16), .ref (ρ (ρ h0 0) 17), .ref (ρ (ρ h0 0) 18)]) ∧ (0 ≤ w39.toInt ∧ w39.toInt ≤ 6) ∧ va_P (dC, dI) vwCl (va_pl L f43) H ∧ va_D A (va_pl L f43) ∧ va_S A s.heap H locs ∧ lv_has ls 2 [(1, .int w39), (0, .ref h0)]) ?_ _ _ _ _ ⟨f36, 0, rfl, hT, hR, hX, hf_41, (by have : (0 : Int32).toInt = 0 := rfl; omega), hP, hD, hS, lv_sub hl [0, 1] rfl⟩
    intro n0 H locs ls hI ih44
    refine Exists.elim hI (fun f43 hE90 => Exists.elim hE90 (fun w39 hE91 => tn_10 hE91 (fun hn45 hT hR hX hk42k rw39 hP hD hS hl => ?_)))
    clear hE91 hE90 hI
    refine lv_iload_n hx hb dX9_passHour_51 rfl (lv_at hl 0 rfl) ?_
    refine lv_aload_n hx hb dX9_passHour_52 rfl (lv_at hl 1 rfl) ?_
    refine tpk_10 hT ht_h0 (fun o46_x1 o46_x2 o46_x3 hf_o46 ro46_0 ro46_1 => ?_)
    refine tpk_pos (tp_in hG ht_h0 (by decide)) hf_o46 (fun q47 eq47 => ?_)
    refine va_get (D := (dC, dI)) (ci := 9) (v := .ref (ρ h0 0)) (C := RX9) (T := TX9) (N := 4) hx hb hts hfX9 hown hK hP q47 eq47 rfl 0 (by decide) (hts (.fieldLink RX9 9 "ColdShips$Watch" "world" "LColdShips$World;") wa_114) (fun _ h9 => h9) rfl dX9_passHour_53 ?_
    refine tpk_pos (tp_in hG y1 (by decide)) hk42k (fun q48 eq48 => ?_)
    have rzρ_h0_0_2 := tp_hu rzρ_h0_0_2
    refine va_getN (D := (dC, dI)) (ci := 10) (v := .int ρ_h0_0_x5) (C := RX10) (T := TX10) (N := 19) hx hb hts hfX10 hown hK hP q48 eq48 rfl 5 (by decide) (va_Nw.use rfl (hN.1 (.fieldLinkNest RX9 39 "ColdShips$World" "shipCount" "I" "ColdShips") nzw_57)) (fun _ h9 => h9) rfl dX9_passHour_56 ?_
    refine lv_icmp_ge (tgt := 73) hx hb dX9_passHour_59 (by decide) (fun c49 => ?_) (fun c49 => ?_)
    · have ic49 : w39.toInt ≥ ρ_h0_0_x5.toInt := zi_ge rfl rfl c49
      refine lv_aload_n hx hb dX9_passHour_73 rfl (lv_at hl 1 rfl) ?_
      refine va_get (D := (dC, dI)) (ci := 9) (v := .ref (ρ h0 0)) (C := RX9) (T := TX9) (N := 4) hx hb hts hfX9 hown hK hP q47 eq47 rfl 0 (by decide) (hts (.fieldLink RX9 9 "ColdShips$Watch" "world" "LColdShips$World;") wa_114) (fun _ h9 => h9) rfl dX9_passHour_74 ?_
      refine lv_dup hx hb dX9_passHour_77 rfl ?_
      refine va_getN (D := (dC, dI)) (ci := 10) (v := .int ρ_h0_0_x0) (C := RX10) (T := TX10) (N := 19) hx hb hts hfX10 hown hK hP q48 eq48 rfl 0 (by decide) (va_Nw.use rfl (hN.1 (.fieldLinkNest RX9 15 "ColdShips$World" "now" "I" "ColdShips") nzw_48)) (fun _ h9 => h9) rfl dX9_passHour_78 ?_
      refine lv_iconst (v := 1) hx hb dX9_passHour_81 (by decide) ?_
      refine lv_iadd hx hb dX9_passHour_82 ?_
      refine lv_topi (fun z50 ez50 => ?_)
      have iz50 : z50.toInt = ρ_h0_0_x0.toInt + 1 := zi_add ez50 rfl rfl (by omega) (by omega)
      refine va_putN (D := (dC, dI)) (ci := 10) (v := .int z50) (ty := .int) (C := RX10) (T := TX10) (N := 19) hx hb hts hfX10 tyX10 tyX10_ok nmX10 hown hK hP hD hS q48 eq48 rfl 0 (by decide) (va_Nw.use rfl (hN.1 (.fieldLinkNest RX9 15 "ColdShips$World" "now" "I" "ColdShips") nzw_48)) (fun _ h9 => h9) rfl (tyX10_ok 0 (by decide)) rfl rfl (Nat.le_of_ble_eq_true rfl) dX9_passHour_83 (tp_k (.inr (10, [.int z50, .int ρ_h0_0_x1, .int ρ_h0_0_x2, .int ρ_h0_0_x3, .int ρ_h0_0_x4, .int ρ_h0_0_x5, .int ρ_h0_0_x6, .ref (ρ (ρ h0 0) 7), .ref (ρ (ρ h0 0) 8), .ref (ρ (ρ h0 0) 9), .ref (ρ (ρ h0 0) 10), .ref (ρ (ρ h0 0) 11), .ref (ρ (ρ h0 0) 12), .ref (ρ (ρ h0 0) 13), .ref (ρ (ρ h0 0) 14), .ref (ρ (ρ h0 0) 15), .ref (ρ (ρ h0 0) 16), .ref (ρ (ρ h0 0) 17), .ref (ρ (ρ h0 0) 18)])) hD (tp_in hG y1 (by decide)) eq48 (fun f51 H locs hP hD hS g53 k52 => ?_))
      have hT := hT.up y1 g53 k52 ⟨_, _, _, _, _, _, _, rfl, (by first | decide | omega | (omega)), rzρ_h0_0_1, rzρ_h0_0_2, rzρ_h0_0_3⟩
      have hR := hR.up y1 (by decide) k52
      have hX := hX.up k52 (Or.inr (by show ((ρ (ρ h0 0) 30) = 0 ∨ (ρ (ρ h0 0) 30) = 17); omega))
      have tv54 : tp_fld (f51 (ρ h0 0)) 0 = z50.toInt := by rw [g53]; rfl
      have tv55 : tp_fld (f51 (ρ h0 0)) 1 = ρ_h0_0_x1.toInt := by rw [g53]; rfl
      have tv56 : tp_fld (f51 (ρ h0 0)) 2 = ρ_h0_0_x2.toInt := by rw [g53]; rfl
      have tv57 : tp_fld (f51 (ρ h0 0)) 3 = ρ_h0_0_x3.toInt := by rw [g53]; rfl
      have rzρ_h0_0_1 := tp_hu rzρ_h0_0_1
      have tv58 : tp_fld (f51 (ρ h0 0)) 4 = ρ_h0_0_x4.toInt := by rw [g53]; rfl
      have tv59 : tp_fld (f51 (ρ h0 0)) 5 = ρ_h0_0_x5.toInt := by rw [g53]; rfl
      have rzρ_h0_0_3 := tp_hu rzρ_h0_0_3
      have tv60 : tp_fld (f51 (ρ h0 0)) 6 = ρ_h0_0_x6.toInt := by rw [g53]; rfl
      exact W.vret hx hb hr (fun t ht hW => ⟨⟨f51, rfl, ⟨hT, hR, ⟨hX, (by rw [tv54, tv55, tv56, tv57, tv58, tv59, tv60]; exact ⟨⟨fun q0 => by omega, fun q0 => (by omega)⟩, (by omega), (by omega), (by omega), (by omega), (by omega), (by omega)⟩)⟩⟩, by rw [ht]; exact hP, va_K.moved hW.alike hK, hD⟩, hS.F ht⟩) hS.2.2 dX9_passHour_86
    · have ic49 : w39.toInt < ρ_h0_0_x5.toInt := zi_gef rfl rfl c49
      refine lv_aload_n hx hb dX9_passHour_62 rfl (lv_at hl 1 rfl) ?_
      refine lv_iload_n hx hb dX9_passHour_63 rfl (lv_at hl 0 rfl) ?_
      have hFc := tp_fr hD hS hA
      refine va_callv (va_runV (As := [.int w39]) (rest := []) ⟨hx, hb, hml, hown, hts⟩ (t_X9_passShip l dC dI _ Ω κ τ ν ρ L f43 hG hT h0 w39 ht_h0 (by first | decide | omega)) (cwV 1 hts gX9_passHour_X9_passShip rfl rfl rfl ⟨rfl, pd_X9_passShip⟩ ⟨Nat.le_of_ble_eq_true rfl, Nat.le_of_ble_eq_true rfl⟩) ⟨pz_blind, va_recv hK hP (ci := 9) (q0 := q47) rfl eq47, pz_pre hP hK hD hN⟩ rfl rfl hl.1 rfl (lv_room (Nat.le_of_ble_eq_true rfl)) dX9_passHour_64 ⟨Nat.le_of_ble_eq_true rfl, Nat.le_of_ble_eq_true rfl⟩) hS (fun q _ h => hFc q h) hFc (fun f63 t H1 locs ht hvm hw62 hB hz1 hk1 hS => ?_)
      refine tn_3 hw62 (fun hT hF64 hw62p => ?_); clear hw62
      have hR := hR.then hF64 (by decide)
      have hw62x := hw62p
      have hX := hX.th hw62x (fun n q9 => by have q8 : n = 17 := q9; show (n = 0 ∨ n = 17); omega)
      have hP := hB.1; rw [ht] at hP; have hD := tp_ad f63 hD; clear hB hFc hz1 hk1; subst ht; generalize t.heap = H at hP hS ⊢
      obtain ⟨z65, ez65⟩ : ∃ y : Int32, y = w39 + 1 := ⟨_, rfl⟩
      refine lv_iinc (v := z65) (lv' := [(1, .int z65), (0, .ref h0)]) hx hb dX9_passHour_67 hl (k := 0) rfl (by rw [ez65]; rfl) (by decide) rfl (fun ls hl => ?_)
      have iz65 : z65.toInt = w39.toInt + 1 := zi_add ez65 rfl rfl (by omega) (by omega)
      refine lv_goto (tgt := 51) hx hb dX9_passHour_70 (by decide) ?_
      have hf_66 : f63 (ρ h0 0) = .inr (10, [.int ρ_h0_0_x0, .int ρ_h0_0_x1, .int ρ_h0_0_x2, .int ρ_h0_0_x3, .int ρ_h0_0_x4, .int ρ_h0_0_x5, .int ρ_h0_0_x6, .ref (ρ (ρ h0 0) 7), .ref (ρ (ρ h0 0) 8), .ref (ρ (ρ h0 0) 9), .ref (ρ (ρ h0 0) 10), .ref (ρ (ρ h0 0) 11), .ref (ρ (ρ h0 0) 12), .ref (ρ (ρ h0 0) 13), .ref (ρ (ρ h0 0) 14), .ref (ρ (ρ h0 0) 15), .ref (ρ (ρ h0 0) 16), .ref (ρ (ρ h0 0) 17), .ref (ρ (ρ h0 0) 18)]) := (hF64 _ (by rw [y1]; decide)).trans hk42k
      exact ih44 _ _ _ _ (by rw [hn45]; omega) ⟨f63, z65, rfl, hT, hR, hX, hf_66, (by omega), hP, hD, hS, lv_sub hl [0, 1] rfl⟩
  · have ic7 : r5.toInt = 0 := zi_nef rfl rfl c7
    have p67 : ¬ (0 ≤ (ρ_h0_0_x0.toInt) ∧ (ρ_h0_0_x0.toInt) ≤ 2399) := (tp_cond.no hw6p) (by omega)
    clear hw6r ic7
    have tv68 : tp_fld (f (ρ h0 0)) 0 = ρ_h0_0_x0.toInt := by rw [hf_ρ_h0_0]; rfl
    have tv69 : tp_fld (f (ρ h0 0)) 1 = ρ_h0_0_x1.toInt := by rw [hf_ρ_h0_0]; rfl
    have tv70 : tp_fld (f (ρ h0 0)) 2 = ρ_h0_0_x2.toInt := by rw [hf_ρ_h0_0]; rfl
    have tv71 : tp_fld (f (ρ h0 0)) 3 = ρ_h0_0_x3.toInt := by rw [hf_ρ_h0_0]; rfl
    have rzρ_h0_0_1 := tp_hu rzρ_h0_0_1
    have tv72 : tp_fld (f (ρ h0 0)) 4 = ρ_h0_0_x4.toInt := by rw [hf_ρ_h0_0]; rfl
    have rzρ_h0_0_2 := tp_hu rzρ_h0_0_2
    have tv73 : tp_fld (f (ρ h0 0)) 5 = ρ_h0_0_x5.toInt := by rw [hf_ρ_h0_0]; rfl
    have rzρ_h0_0_3 := tp_hu rzρ_h0_0_3
    have tv74 : tp_fld (f (ρ h0 0)) 6 = ρ_h0_0_x6.toInt := by rw [hf_ρ_h0_0]; rfl
    exact W.vret hx hb hr (fun t ht hW => ⟨⟨f, rfl, ⟨hT, hR, ⟨hX, (by rw [tv68, tv69, tv70, tv71, tv72, tv73, tv74]; exact ⟨⟨fun q0 => by omega, fun q0 => (by omega)⟩, (by omega), (by omega), (by omega), (by omega), (by omega), (by omega)⟩)⟩⟩, by rw [ht]; exact hP, va_K.moved hW.alike hK, hD⟩, hS.F ht⟩) hS.2.2 dX9_passHour_13
end
section
theorem gX3_reckon_X3_findFacts : GoodIn WALL (wsV RX3 29 RX3 yX3_findFacts wqX3_findFacts) := wg_V wa_1136 wa_1137 wa_1138 wa_27 wa_1139
theorem gX3_reckon_X3_runClause : GoodIn WALL (wsV RX3 42 RX3 yX3_runClause wqX3_runClause) := wg_V wa_1158 wa_1159 wa_1160 wa_27 wa_1161
theorem dX3_reckon_0 : decode cX3_reckon 0 = .ok (.aload_n 0, 1) := od_42  (by decide +kernel)
theorem dX3_reckon_1 : decode cX3_reckon 1 = .ok (.lconst 0, 1) := od_9  (by decide +kernel)
theorem dX3_reckon_2 : decode cX3_reckon 2 = .ok (.putfield 22, 3) := od_181 (a := 0) (b := 22) (by decide +kernel) (by decide)
theorem dX3_reckon_5 : decode cX3_reckon 5 = .ok (.aload_n 0, 1) := od_42  (by decide +kernel)
theorem dX3_reckon_6 : decode cX3_reckon 6 = .ok (.lconst 0, 1) := od_9  (by decide +kernel)
theorem dX3_reckon_7 : decode cX3_reckon 7 = .ok (.putfield 26, 3) := od_181 (a := 0) (b := 26) (by decide +kernel) (by decide)
theorem dX3_reckon_10 : decode cX3_reckon 10 = .ok (.aload_n 0, 1) := od_42  (by decide +kernel)
theorem dX3_reckon_11 : decode cX3_reckon 11 = .ok (.iload_n 1, 1) := od_27  (by decide +kernel)
theorem dX3_reckon_12 : decode cX3_reckon 12 = .ok (.aload_n 2, 1) := od_44  (by decide +kernel)
theorem dX3_reckon_13 : decode cX3_reckon 13 = .ok (.iload_n 3, 1) := od_29  (by decide +kernel)
theorem dX3_reckon_14 : decode cX3_reckon 14 = .ok (.invokevirtual 29, 3) := od_182 (a := 0) (b := 29) (by decide +kernel) (by decide)
theorem dX3_reckon_17 : decode cX3_reckon 17 = .ok (.iconst 0, 1) := od_3  (by decide +kernel)
theorem dX3_reckon_18 : decode cX3_reckon 18 = .ok (.istore 4, 2) := od_54 (n := 4) (by decide +kernel)
theorem dX3_reckon_20 : decode cX3_reckon 20 = .ok (.iload 4, 2) := od_21 (n := 4) (by decide +kernel)
theorem dX3_reckon_22 : decode cX3_reckon 22 = .ok (.iconst 1, 1) := od_4  (by decide +kernel)
theorem dX3_reckon_23 : decode cX3_reckon 23 = .ok (.iadd, 1) := od_96  (by decide +kernel)
theorem dX3_reckon_24 : decode cX3_reckon 24 = .ok (.aload_n 2, 1) := od_44  (by decide +kernel)
theorem dX3_reckon_25 : decode cX3_reckon 25 = .ok (.getfield 33, 3) := od_180 (a := 0) (b := 33) (by decide +kernel) (by decide)
theorem dX3_reckon_28 : decode cX3_reckon 28 = .ok (.arraylength, 1) := od_190  (by decide +kernel)
theorem dX3_reckon_29 : decode cX3_reckon 29 = .ok (.if_icmp .ge 33, 3) := od_162 (a := 0) (b := 33) (by decide +kernel) (by decide +kernel)
theorem dX3_reckon_32 : decode cX3_reckon 32 = .ok (.aload_n 0, 1) := od_42  (by decide +kernel)
theorem dX3_reckon_33 : decode cX3_reckon 33 = .ok (.aload_n 2, 1) := od_44  (by decide +kernel)
theorem dX3_reckon_34 : decode cX3_reckon 34 = .ok (.getfield 39, 3) := od_180 (a := 0) (b := 39) (by decide +kernel) (by decide)
theorem dX3_reckon_37 : decode cX3_reckon 37 = .ok (.aload_n 2, 1) := od_44  (by decide +kernel)
theorem dX3_reckon_38 : decode cX3_reckon 38 = .ok (.getfield 33, 3) := od_180 (a := 0) (b := 33) (by decide +kernel) (by decide)
theorem dX3_reckon_41 : decode cX3_reckon 41 = .ok (.iload 4, 2) := od_21 (n := 4) (by decide +kernel)
theorem dX3_reckon_43 : decode cX3_reckon 43 = .ok (.iaload, 1) := od_46  (by decide +kernel)
theorem dX3_reckon_44 : decode cX3_reckon 44 = .ok (.aload_n 2, 1) := od_44  (by decide +kernel)
theorem dX3_reckon_45 : decode cX3_reckon 45 = .ok (.getfield 33, 3) := od_180 (a := 0) (b := 33) (by decide +kernel) (by decide)
theorem dX3_reckon_48 : decode cX3_reckon 48 = .ok (.iload 4, 2) := od_21 (n := 4) (by decide +kernel)
theorem dX3_reckon_50 : decode cX3_reckon 50 = .ok (.iconst 1, 1) := od_4  (by decide +kernel)
theorem dX3_reckon_51 : decode cX3_reckon 51 = .ok (.iadd, 1) := od_96  (by decide +kernel)
theorem dX3_reckon_52 : decode cX3_reckon 52 = .ok (.iaload, 1) := od_46  (by decide +kernel)
theorem dX3_reckon_53 : decode cX3_reckon 53 = .ok (.invokevirtual 42, 3) := od_182 (a := 0) (b := 42) (by decide +kernel) (by decide)
theorem dX3_reckon_56 : decode cX3_reckon 56 = .ok (.iinc 4 1, 3) := od_132 (a := 4) (b := 1) (by decide +kernel) (by decide +kernel)
theorem dX3_reckon_59 : decode cX3_reckon 59 = .ok (.goto (-39), 3) := od_167 (a := 255) (b := 217) (by decide +kernel) (by decide +kernel)
theorem dX3_reckon_62 : decode cX3_reckon 62 = .ok (.return_, 1) := od_177  (by decide +kernel)
theorem gX3_findFacts_X4_number : GoodIn WALL (wsV RX3 52 RX4 yX4_number wqX4_number) := wg_V wa_1141 wa_679 wa_680 wa_56 wa_681
theorem gX3_findFacts_X4_at : GoodIn WALL (wsV RX3 62 RX4 yX4_at wqX4_at) := wg_V wa_1142 wa_683 wa_684 wa_56 wa_685
theorem gX3_findFacts_X10_billedOf : GoodIn WALL (wsV RX3 66 RX10 yX10_billedOf wqX10_billedOf) := wg_V wa_1143 wa_1144 wa_1145 wa_14 wa_1146
theorem gX3_findFacts_X10_heatOf : GoodIn WALL (wsV RX3 70 RX10 yX10_heatOf wqX10_heatOf) := wg_V wa_1147 wa_687 wa_688 wa_14 wa_689
theorem gX3_findFacts_X6_freeHours : GoodIn WALL (wsV RX3 80 RX6 yX6_freeHours wqX6_freeHours) := wg_V wa_1148 wa_1149 wa_1150 wa_50 wa_1151
theorem gX3_findFacts_X10_priceOf : GoodIn WALL (wsV RX3 94 RX10 yX10_priceOf wqX10_priceOf) := wg_V wa_1153 wa_1154 wa_1155 wa_14 wa_1156
theorem dX3_findFacts_0 : decode cX3_findFacts 0 = .ok (.aload_n 0, 1) := od_42  (by decide +kernel)
theorem dX3_findFacts_1 : decode cX3_findFacts 1 = .ok (.getfield 18, 3) := od_180 (a := 0) (b := 18) (by decide +kernel) (by decide)
theorem dX3_findFacts_4 : decode cX3_findFacts 4 = .ok (.getfield 46, 3) := od_180 (a := 0) (b := 46) (by decide +kernel) (by decide)
theorem dX3_findFacts_7 : decode cX3_findFacts 7 = .ok (.iload_n 1, 1) := od_27  (by decide +kernel)
theorem dX3_findFacts_8 : decode cX3_findFacts 8 = .ok (.iconst 2, 1) := od_5  (by decide +kernel)
theorem dX3_findFacts_9 : decode cX3_findFacts 9 = .ok (.invokevirtual 52, 3) := od_182 (a := 0) (b := 52) (by decide +kernel) (by decide)
theorem dX3_findFacts_12 : decode cX3_findFacts 12 = .ok (.istore 4, 2) := od_54 (n := 4) (by decide +kernel)
theorem dX3_findFacts_14 : decode cX3_findFacts 14 = .ok (.aload_n 0, 1) := od_42  (by decide +kernel)
theorem dX3_findFacts_15 : decode cX3_findFacts 15 = .ok (.getfield 18, 3) := od_180 (a := 0) (b := 18) (by decide +kernel) (by decide)
theorem dX3_findFacts_18 : decode cX3_findFacts 18 = .ok (.getfield 46, 3) := od_180 (a := 0) (b := 46) (by decide +kernel) (by decide)
theorem dX3_findFacts_21 : decode cX3_findFacts 21 = .ok (.iload_n 1, 1) := od_27  (by decide +kernel)
theorem dX3_findFacts_22 : decode cX3_findFacts 22 = .ok (.iconst 3, 1) := od_6  (by decide +kernel)
theorem dX3_findFacts_23 : decode cX3_findFacts 23 = .ok (.invokevirtual 52, 3) := od_182 (a := 0) (b := 52) (by decide +kernel) (by decide)
theorem dX3_findFacts_26 : decode cX3_findFacts 26 = .ok (.istore 5, 2) := od_54 (n := 5) (by decide +kernel)
theorem dX3_findFacts_28 : decode cX3_findFacts 28 = .ok (.aload_n 2, 1) := od_44  (by decide +kernel)
theorem dX3_findFacts_29 : decode cX3_findFacts 29 = .ok (.getfield 58, 3) := od_180 (a := 0) (b := 58) (by decide +kernel) (by decide)
theorem dX3_findFacts_32 : decode cX3_findFacts 32 = .ok (.aload_n 0, 1) := od_42  (by decide +kernel)
theorem dX3_findFacts_33 : decode cX3_findFacts 33 = .ok (.getfield 18, 3) := od_180 (a := 0) (b := 18) (by decide +kernel) (by decide)
theorem dX3_findFacts_36 : decode cX3_findFacts 36 = .ok (.getfield 46, 3) := od_180 (a := 0) (b := 46) (by decide +kernel) (by decide)
theorem dX3_findFacts_39 : decode cX3_findFacts 39 = .ok (.iload_n 1, 1) := od_27  (by decide +kernel)
theorem dX3_findFacts_40 : decode cX3_findFacts 40 = .ok (.iconst 1, 1) := od_4  (by decide +kernel)
theorem dX3_findFacts_41 : decode cX3_findFacts 41 = .ok (.invokevirtual 52, 3) := od_182 (a := 0) (b := 52) (by decide +kernel) (by decide)
theorem dX3_findFacts_44 : decode cX3_findFacts 44 = .ok (.if_icmp .eq 7, 3) := od_159 (a := 0) (b := 7) (by decide +kernel) (by decide +kernel)
theorem dX3_findFacts_47 : decode cX3_findFacts 47 = .ok (.iconst 1, 1) := od_4  (by decide +kernel)
theorem dX3_findFacts_48 : decode cX3_findFacts 48 = .ok (.goto 4, 3) := od_167 (a := 0) (b := 4) (by decide +kernel) (by decide +kernel)
theorem dX3_findFacts_51 : decode cX3_findFacts 51 = .ok (.iconst 0, 1) := od_3  (by decide +kernel)
theorem dX3_findFacts_52 : decode cX3_findFacts 52 = .ok (.istore 6, 2) := od_54 (n := 6) (by decide +kernel)
theorem dX3_findFacts_54 : decode cX3_findFacts 54 = .ok (.aload_n 0, 1) := od_42  (by decide +kernel)
theorem dX3_findFacts_55 : decode cX3_findFacts 55 = .ok (.getfield 9, 3) := od_180 (a := 0) (b := 9) (by decide +kernel) (by decide)
theorem dX3_findFacts_58 : decode cX3_findFacts 58 = .ok (.iconst 0, 1) := od_3  (by decide +kernel)
theorem dX3_findFacts_59 : decode cX3_findFacts 59 = .ok (.aload_n 0, 1) := od_42  (by decide +kernel)
theorem dX3_findFacts_60 : decode cX3_findFacts 60 = .ok (.getfield 18, 3) := od_180 (a := 0) (b := 18) (by decide +kernel) (by decide)
theorem dX3_findFacts_63 : decode cX3_findFacts 63 = .ok (.getfield 46, 3) := od_180 (a := 0) (b := 46) (by decide +kernel) (by decide)
theorem dX3_findFacts_66 : decode cX3_findFacts 66 = .ok (.iload_n 1, 1) := od_27  (by decide +kernel)
theorem dX3_findFacts_67 : decode cX3_findFacts 67 = .ok (.iconst 4, 1) := od_7  (by decide +kernel)
theorem dX3_findFacts_68 : decode cX3_findFacts 68 = .ok (.invokevirtual 62, 3) := od_182 (a := 0) (b := 62) (by decide +kernel) (by decide)
theorem dX3_findFacts_71 : decode cX3_findFacts 71 = .ok (.lastore, 1) := od_80  (by decide +kernel)
theorem dX3_findFacts_72 : decode cX3_findFacts 72 = .ok (.aload_n 0, 1) := od_42  (by decide +kernel)
theorem dX3_findFacts_73 : decode cX3_findFacts 73 = .ok (.getfield 9, 3) := od_180 (a := 0) (b := 9) (by decide +kernel) (by decide)
theorem dX3_findFacts_76 : decode cX3_findFacts 76 = .ok (.iconst 1, 1) := od_4  (by decide +kernel)
theorem dX3_findFacts_77 : decode cX3_findFacts 77 = .ok (.aload_n 0, 1) := od_42  (by decide +kernel)
theorem dX3_findFacts_78 : decode cX3_findFacts 78 = .ok (.getfield 18, 3) := od_180 (a := 0) (b := 18) (by decide +kernel) (by decide)
theorem dX3_findFacts_81 : decode cX3_findFacts 81 = .ok (.iload_n 1, 1) := od_27  (by decide +kernel)
theorem dX3_findFacts_82 : decode cX3_findFacts 82 = .ok (.invokevirtual 66, 3) := od_182 (a := 0) (b := 66) (by decide +kernel) (by decide)
theorem dX3_findFacts_85 : decode cX3_findFacts 85 = .ok (.lastore, 1) := od_80  (by decide +kernel)
theorem dX3_findFacts_86 : decode cX3_findFacts 86 = .ok (.aload_n 0, 1) := od_42  (by decide +kernel)
theorem dX3_findFacts_87 : decode cX3_findFacts 87 = .ok (.getfield 9, 3) := od_180 (a := 0) (b := 9) (by decide +kernel) (by decide)
theorem dX3_findFacts_90 : decode cX3_findFacts 90 = .ok (.iconst 2, 1) := od_5  (by decide +kernel)
theorem dX3_findFacts_91 : decode cX3_findFacts 91 = .ok (.aload_n 0, 1) := od_42  (by decide +kernel)
theorem dX3_findFacts_92 : decode cX3_findFacts 92 = .ok (.getfield 18, 3) := od_180 (a := 0) (b := 18) (by decide +kernel) (by decide)
theorem dX3_findFacts_95 : decode cX3_findFacts 95 = .ok (.iload_n 1, 1) := od_27  (by decide +kernel)
theorem dX3_findFacts_96 : decode cX3_findFacts 96 = .ok (.invokevirtual 70, 3) := od_182 (a := 0) (b := 70) (by decide +kernel) (by decide)
theorem dX3_findFacts_99 : decode cX3_findFacts 99 = .ok (.lastore, 1) := od_80  (by decide +kernel)
theorem dX3_findFacts_100 : decode cX3_findFacts 100 = .ok (.aload_n 0, 1) := od_42  (by decide +kernel)
theorem dX3_findFacts_101 : decode cX3_findFacts 101 = .ok (.getfield 9, 3) := od_180 (a := 0) (b := 9) (by decide +kernel) (by decide)
theorem dX3_findFacts_104 : decode cX3_findFacts 104 = .ok (.iconst 3, 1) := od_6  (by decide +kernel)
theorem dX3_findFacts_105 : decode cX3_findFacts 105 = .ok (.aload_n 0, 1) := od_42  (by decide +kernel)
theorem dX3_findFacts_106 : decode cX3_findFacts 106 = .ok (.getfield 18, 3) := od_180 (a := 0) (b := 18) (by decide +kernel) (by decide)
theorem dX3_findFacts_109 : decode cX3_findFacts 109 = .ok (.getfield 73, 3) := od_180 (a := 0) (b := 73) (by decide +kernel) (by decide)
theorem dX3_findFacts_112 : decode cX3_findFacts 112 = .ok (.iconst 0, 1) := od_3  (by decide +kernel)
theorem dX3_findFacts_113 : decode cX3_findFacts 113 = .ok (.iload_n 3, 1) := od_29  (by decide +kernel)
theorem dX3_findFacts_114 : decode cX3_findFacts 114 = .ok (.aload_n 2, 1) := od_44  (by decide +kernel)
theorem dX3_findFacts_115 : decode cX3_findFacts 115 = .ok (.getfield 77, 3) := od_180 (a := 0) (b := 77) (by decide +kernel) (by decide)
theorem dX3_findFacts_118 : decode cX3_findFacts 118 = .ok (.iconst 1, 1) := od_4  (by decide +kernel)
theorem dX3_findFacts_119 : decode cX3_findFacts 119 = .ok (.iadd, 1) := od_96  (by decide +kernel)
theorem dX3_findFacts_120 : decode cX3_findFacts 120 = .ok (.iload 5, 2) := od_21 (n := 5) (by decide +kernel)
theorem dX3_findFacts_122 : decode cX3_findFacts 122 = .ok (.invokevirtual 80, 3) := od_182 (a := 0) (b := 80) (by decide +kernel) (by decide)
theorem dX3_findFacts_125 : decode cX3_findFacts 125 = .ok (.i2l, 1) := od_133  (by decide +kernel)
theorem dX3_findFacts_126 : decode cX3_findFacts 126 = .ok (.lastore, 1) := od_80  (by decide +kernel)
theorem dX3_findFacts_127 : decode cX3_findFacts 127 = .ok (.aload_n 0, 1) := od_42  (by decide +kernel)
theorem dX3_findFacts_128 : decode cX3_findFacts 128 = .ok (.getfield 9, 3) := od_180 (a := 0) (b := 9) (by decide +kernel) (by decide)
theorem dX3_findFacts_131 : decode cX3_findFacts 131 = .ok (.iconst 4, 1) := od_7  (by decide +kernel)
theorem dX3_findFacts_132 : decode cX3_findFacts 132 = .ok (.iconst 0, 1) := od_3  (by decide +kernel)
theorem dX3_findFacts_133 : decode cX3_findFacts 133 = .ok (.aload_n 2, 1) := od_44  (by decide +kernel)
theorem dX3_findFacts_134 : decode cX3_findFacts 134 = .ok (.getfield 86, 3) := od_180 (a := 0) (b := 86) (by decide +kernel) (by decide)
theorem dX3_findFacts_137 : decode cX3_findFacts 137 = .ok (.iload 4, 2) := od_21 (n := 4) (by decide +kernel)
theorem dX3_findFacts_139 : decode cX3_findFacts 139 = .ok (.isub, 1) := od_100  (by decide +kernel)
theorem dX3_findFacts_140 : decode cX3_findFacts 140 = .ok (.invokestatic 89, 3) := od_184 (a := 0) (b := 89) (by decide +kernel) (by decide)
theorem dX3_findFacts_143 : decode cX3_findFacts 143 = .ok (.i2l, 1) := od_133  (by decide +kernel)
theorem dX3_findFacts_144 : decode cX3_findFacts 144 = .ok (.lastore, 1) := od_80  (by decide +kernel)
theorem dX3_findFacts_145 : decode cX3_findFacts 145 = .ok (.aload_n 0, 1) := od_42  (by decide +kernel)
theorem dX3_findFacts_146 : decode cX3_findFacts 146 = .ok (.getfield 9, 3) := od_180 (a := 0) (b := 9) (by decide +kernel) (by decide)
theorem dX3_findFacts_149 : decode cX3_findFacts 149 = .ok (.iconst 5, 1) := od_8  (by decide +kernel)
theorem dX3_findFacts_150 : decode cX3_findFacts 150 = .ok (.aload_n 0, 1) := od_42  (by decide +kernel)
theorem dX3_findFacts_151 : decode cX3_findFacts 151 = .ok (.getfield 18, 3) := od_180 (a := 0) (b := 18) (by decide +kernel) (by decide)
theorem dX3_findFacts_154 : decode cX3_findFacts 154 = .ok (.iload_n 1, 1) := od_27  (by decide +kernel)
theorem dX3_findFacts_155 : decode cX3_findFacts 155 = .ok (.iload_n 3, 1) := od_29  (by decide +kernel)
theorem dX3_findFacts_156 : decode cX3_findFacts 156 = .ok (.invokevirtual 94, 3) := od_182 (a := 0) (b := 94) (by decide +kernel) (by decide)
theorem dX3_findFacts_159 : decode cX3_findFacts 159 = .ok (.lastore, 1) := od_80  (by decide +kernel)
theorem dX3_findFacts_160 : decode cX3_findFacts 160 = .ok (.aload_n 0, 1) := od_42  (by decide +kernel)
theorem dX3_findFacts_161 : decode cX3_findFacts 161 = .ok (.getfield 9, 3) := od_180 (a := 0) (b := 9) (by decide +kernel) (by decide)
theorem dX3_findFacts_164 : decode cX3_findFacts 164 = .ok (.bipush 6, 2) := od_16 (a := 6) (by decide +kernel) (by decide +kernel)
theorem dX3_findFacts_166 : decode cX3_findFacts 166 = .ok (.iload 5, 2) := od_21 (n := 5) (by decide +kernel)
theorem dX3_findFacts_168 : decode cX3_findFacts 168 = .ok (.iload 4, 2) := od_21 (n := 4) (by decide +kernel)
theorem dX3_findFacts_170 : decode cX3_findFacts 170 = .ok (.isub, 1) := od_100  (by decide +kernel)
theorem dX3_findFacts_171 : decode cX3_findFacts 171 = .ok (.iconst 1, 1) := od_4  (by decide +kernel)
theorem dX3_findFacts_172 : decode cX3_findFacts 172 = .ok (.iadd, 1) := od_96  (by decide +kernel)
theorem dX3_findFacts_173 : decode cX3_findFacts 173 = .ok (.i2l, 1) := od_133  (by decide +kernel)
theorem dX3_findFacts_174 : decode cX3_findFacts 174 = .ok (.lastore, 1) := od_80  (by decide +kernel)
theorem dX3_findFacts_175 : decode cX3_findFacts 175 = .ok (.aload_n 0, 1) := od_42  (by decide +kernel)
theorem dX3_findFacts_176 : decode cX3_findFacts 176 = .ok (.getfield 9, 3) := od_180 (a := 0) (b := 9) (by decide +kernel) (by decide)
theorem dX3_findFacts_179 : decode cX3_findFacts 179 = .ok (.bipush 7, 2) := od_16 (a := 7) (by decide +kernel) (by decide +kernel)
theorem dX3_findFacts_181 : decode cX3_findFacts 181 = .ok (.iload 6, 2) := od_21 (n := 6) (by decide +kernel)
theorem dX3_findFacts_183 : decode cX3_findFacts 183 = .ok (.ifCond .eq 7, 3) := od_153 (a := 0) (b := 7) (by decide +kernel) (by decide +kernel)
theorem dX3_findFacts_186 : decode cX3_findFacts 186 = .ok (.lconst 1, 1) := od_10  (by decide +kernel)
theorem dX3_findFacts_187 : decode cX3_findFacts 187 = .ok (.goto 4, 3) := od_167 (a := 0) (b := 4) (by decide +kernel) (by decide +kernel)
theorem dX3_findFacts_190 : decode cX3_findFacts 190 = .ok (.lconst 0, 1) := od_9  (by decide +kernel)
theorem dX3_findFacts_191 : decode cX3_findFacts 191 = .ok (.lastore, 1) := od_80  (by decide +kernel)
theorem dX3_findFacts_192 : decode cX3_findFacts 192 = .ok (.return_, 1) := od_177  (by decide +kernel)
theorem gX3_runClause_X3_push : GoodIn WALL (wsV RX3 103 RX3 yX3_push wqX3_push) := wg_V wa_1164 wa_1165 wa_1166 wa_27 wa_1167
theorem gX3_runClause_X3_pop : GoodIn WALL (wsV RX3 107 RX3 yX3_pop wqX3_pop) := wg_V wa_1168 wa_1169 wa_1170 wa_27 wa_1171
theorem gX3_runClause_X3_combine : GoodIn WALL (wsV RX3 111 RX3 yX3_combine wqX3_combine) := wg_V wa_1172 wa_1173 wa_1174 wa_27 wa_1175
theorem dX3_runClause_0 : decode cX3_runClause 0 = .ok (.aload_n 0, 1) := od_42  (by decide +kernel)
theorem dX3_runClause_1 : decode cX3_runClause 1 = .ok (.iconst 0, 1) := od_3  (by decide +kernel)
theorem dX3_runClause_2 : decode cX3_runClause 2 = .ok (.putfield 97, 3) := od_181 (a := 0) (b := 97) (by decide +kernel) (by decide)
theorem dX3_runClause_5 : decode cX3_runClause 5 = .ok (.iload_n 3, 1) := od_29  (by decide +kernel)
theorem dX3_runClause_6 : decode cX3_runClause 6 = .ok (.aload_n 1, 1) := od_43  (by decide +kernel)
theorem dX3_runClause_7 : decode cX3_runClause 7 = .ok (.arraylength, 1) := od_190  (by decide +kernel)
theorem dX3_runClause_8 : decode cX3_runClause 8 = .ok (.invokestatic 100, 3) := od_184 (a := 0) (b := 100) (by decide +kernel) (by decide)
theorem dX3_runClause_11 : decode cX3_runClause 11 = .ok (.istore 4, 2) := od_54 (n := 4) (by decide +kernel)
theorem dX3_runClause_13 : decode cX3_runClause 13 = .ok (.iconst 0, 1) := od_3  (by decide +kernel)
theorem dX3_runClause_14 : decode cX3_runClause 14 = .ok (.iload_n 2, 1) := od_28  (by decide +kernel)
theorem dX3_runClause_15 : decode cX3_runClause 15 = .ok (.invokestatic 89, 3) := od_184 (a := 0) (b := 89) (by decide +kernel) (by decide)
theorem dX3_runClause_18 : decode cX3_runClause 18 = .ok (.istore 5, 2) := od_54 (n := 5) (by decide +kernel)
theorem dX3_runClause_20 : decode cX3_runClause 20 = .ok (.iload 5, 2) := od_21 (n := 5) (by decide +kernel)
theorem dX3_runClause_22 : decode cX3_runClause 22 = .ok (.iload 4, 2) := od_21 (n := 4) (by decide +kernel)
theorem dX3_runClause_24 : decode cX3_runClause 24 = .ok (.if_icmp .ge 268, 3) := od_162 (a := 1) (b := 12) (by decide +kernel) (by decide +kernel)
theorem dX3_runClause_27 : decode cX3_runClause 27 = .ok (.aload_n 1, 1) := od_43  (by decide +kernel)
theorem dX3_runClause_28 : decode cX3_runClause 28 = .ok (.iload 5, 2) := od_21 (n := 5) (by decide +kernel)
theorem dX3_runClause_30 : decode cX3_runClause 30 = .ok (.iaload, 1) := od_46  (by decide +kernel)
theorem dX3_runClause_31 : decode cX3_runClause 31 = .ok (.istore 6, 2) := od_54 (n := 6) (by decide +kernel)
theorem dX3_runClause_33 : decode cX3_runClause 33 = .ok (.iload 6, 2) := od_21 (n := 6) (by decide +kernel)
theorem dX3_runClause_35 : decode cX3_runClause 35 = .ok (.ifCond .lt 13, 3) := od_155 (a := 0) (b := 13) (by decide +kernel) (by decide +kernel)
theorem dX3_runClause_38 : decode cX3_runClause 38 = .ok (.aload_n 0, 1) := od_42  (by decide +kernel)
theorem dX3_runClause_39 : decode cX3_runClause 39 = .ok (.iload 6, 2) := od_21 (n := 6) (by decide +kernel)
theorem dX3_runClause_41 : decode cX3_runClause 41 = .ok (.i2l, 1) := od_133  (by decide +kernel)
theorem dX3_runClause_42 : decode cX3_runClause 42 = .ok (.invokevirtual 103, 3) := od_182 (a := 0) (b := 103) (by decide +kernel) (by decide)
theorem dX3_runClause_45 : decode cX3_runClause 45 = .ok (.goto 241, 3) := od_167 (a := 0) (b := 241) (by decide +kernel) (by decide +kernel)
theorem dX3_runClause_48 : decode cX3_runClause 48 = .ok (.iload 6, 2) := od_21 (n := 6) (by decide +kernel)
theorem dX3_runClause_50 : decode cX3_runClause 50 = .ok (.bipush (-8), 2) := od_16 (a := 248) (by decide +kernel) (by decide +kernel)
theorem dX3_runClause_52 : decode cX3_runClause 52 = .ok (.if_icmp .lt 19, 3) := od_161 (a := 0) (b := 19) (by decide +kernel) (by decide +kernel)
theorem dX3_runClause_55 : decode cX3_runClause 55 = .ok (.aload_n 0, 1) := od_42  (by decide +kernel)
theorem dX3_runClause_56 : decode cX3_runClause 56 = .ok (.aload_n 0, 1) := od_42  (by decide +kernel)
theorem dX3_runClause_57 : decode cX3_runClause 57 = .ok (.getfield 9, 3) := od_180 (a := 0) (b := 9) (by decide +kernel) (by decide)
theorem dX3_runClause_60 : decode cX3_runClause 60 = .ok (.iconst (-1), 1) := od_2  (by decide +kernel)
theorem dX3_runClause_61 : decode cX3_runClause 61 = .ok (.iload 6, 2) := od_21 (n := 6) (by decide +kernel)
theorem dX3_runClause_63 : decode cX3_runClause 63 = .ok (.isub, 1) := od_100  (by decide +kernel)
theorem dX3_runClause_64 : decode cX3_runClause 64 = .ok (.laload, 1) := od_47  (by decide +kernel)
theorem dX3_runClause_65 : decode cX3_runClause 65 = .ok (.invokevirtual 103, 3) := od_182 (a := 0) (b := 103) (by decide +kernel) (by decide)
theorem dX3_runClause_68 : decode cX3_runClause 68 = .ok (.goto 218, 3) := od_167 (a := 0) (b := 218) (by decide +kernel) (by decide +kernel)
theorem dX3_runClause_71 : decode cX3_runClause 71 = .ok (.iload 6, 2) := od_21 (n := 6) (by decide +kernel)
theorem dX3_runClause_73 : decode cX3_runClause 73 = .ok (.bipush (-19), 2) := od_16 (a := 237) (by decide +kernel) (by decide +kernel)
theorem dX3_runClause_75 : decode cX3_runClause 75 = .ok (.if_icmp .eq 10, 3) := od_159 (a := 0) (b := 10) (by decide +kernel) (by decide +kernel)
theorem dX3_runClause_78 : decode cX3_runClause 78 = .ok (.iload 6, 2) := od_21 (n := 6) (by decide +kernel)
theorem dX3_runClause_80 : decode cX3_runClause 80 = .ok (.bipush (-20), 2) := od_16 (a := 236) (by decide +kernel) (by decide +kernel)
theorem dX3_runClause_82 : decode cX3_runClause 82 = .ok (.if_icmp .ne 103, 3) := od_160 (a := 0) (b := 103) (by decide +kernel) (by decide +kernel)
theorem dX3_runClause_85 : decode cX3_runClause 85 = .ok (.aload_n 0, 1) := od_42  (by decide +kernel)
theorem dX3_runClause_86 : decode cX3_runClause 86 = .ok (.invokevirtual 107, 3) := od_182 (a := 0) (b := 107) (by decide +kernel) (by decide)
theorem dX3_runClause_89 : decode cX3_runClause 89 = .ok (.lconst 0, 1) := od_9  (by decide +kernel)
theorem dX3_runClause_90 : decode cX3_runClause 90 = .ok (.lcmp, 1) := od_148  (by decide +kernel)
theorem dX3_runClause_91 : decode cX3_runClause 91 = .ok (.ifCond .eq 7, 3) := od_153 (a := 0) (b := 7) (by decide +kernel) (by decide +kernel)
theorem dX3_runClause_94 : decode cX3_runClause 94 = .ok (.iconst 1, 1) := od_4  (by decide +kernel)
theorem dX3_runClause_95 : decode cX3_runClause 95 = .ok (.goto 4, 3) := od_167 (a := 0) (b := 4) (by decide +kernel) (by decide +kernel)
theorem dX3_runClause_98 : decode cX3_runClause 98 = .ok (.iconst 0, 1) := od_3  (by decide +kernel)
theorem dX3_runClause_99 : decode cX3_runClause 99 = .ok (.istore 7, 2) := od_54 (n := 7) (by decide +kernel)
theorem dX3_runClause_101 : decode cX3_runClause 101 = .ok (.iload 7, 2) := od_21 (n := 7) (by decide +kernel)
theorem dX3_runClause_103 : decode cX3_runClause 103 = .ok (.iload 6, 2) := od_21 (n := 6) (by decide +kernel)
theorem dX3_runClause_105 : decode cX3_runClause 105 = .ok (.bipush (-19), 2) := od_16 (a := 237) (by decide +kernel) (by decide +kernel)
theorem dX3_runClause_107 : decode cX3_runClause 107 = .ok (.if_icmp .ne 7, 3) := od_160 (a := 0) (b := 7) (by decide +kernel) (by decide +kernel)
theorem dX3_runClause_110 : decode cX3_runClause 110 = .ok (.iconst 1, 1) := od_4  (by decide +kernel)
theorem dX3_runClause_111 : decode cX3_runClause 111 = .ok (.goto 4, 3) := od_167 (a := 0) (b := 4) (by decide +kernel) (by decide +kernel)
theorem dX3_runClause_114 : decode cX3_runClause 114 = .ok (.iconst 0, 1) := od_3  (by decide +kernel)
theorem dX3_runClause_115 : decode cX3_runClause 115 = .ok (.if_icmp .ne 7, 3) := od_160 (a := 0) (b := 7) (by decide +kernel) (by decide +kernel)
theorem dX3_runClause_118 : decode cX3_runClause 118 = .ok (.iconst 1, 1) := od_4  (by decide +kernel)
theorem dX3_runClause_119 : decode cX3_runClause 119 = .ok (.goto 4, 3) := od_167 (a := 0) (b := 4) (by decide +kernel) (by decide +kernel)
theorem dX3_runClause_122 : decode cX3_runClause 122 = .ok (.iconst 0, 1) := od_3  (by decide +kernel)
theorem dX3_runClause_123 : decode cX3_runClause 123 = .ok (.istore 8, 2) := od_54 (n := 8) (by decide +kernel)
theorem dX3_runClause_125 : decode cX3_runClause 125 = .ok (.iload 8, 2) := od_21 (n := 8) (by decide +kernel)
theorem dX3_runClause_127 : decode cX3_runClause 127 = .ok (.ifCond .eq 17, 3) := od_153 (a := 0) (b := 17) (by decide +kernel) (by decide +kernel)
theorem dX3_runClause_130 : decode cX3_runClause 130 = .ok (.aload_n 0, 1) := od_42  (by decide +kernel)
theorem dX3_runClause_131 : decode cX3_runClause 131 = .ok (.iload 7, 2) := od_21 (n := 7) (by decide +kernel)
theorem dX3_runClause_133 : decode cX3_runClause 133 = .ok (.ifCond .eq 7, 3) := od_153 (a := 0) (b := 7) (by decide +kernel) (by decide +kernel)
theorem dX3_runClause_136 : decode cX3_runClause 136 = .ok (.lconst 1, 1) := od_10  (by decide +kernel)
theorem dX3_runClause_137 : decode cX3_runClause 137 = .ok (.goto 4, 3) := od_167 (a := 0) (b := 4) (by decide +kernel) (by decide +kernel)
theorem dX3_runClause_140 : decode cX3_runClause 140 = .ok (.lconst 0, 1) := od_9  (by decide +kernel)
theorem dX3_runClause_141 : decode cX3_runClause 141 = .ok (.invokevirtual 103, 3) := od_182 (a := 0) (b := 103) (by decide +kernel) (by decide)
theorem dX3_runClause_144 : decode cX3_runClause 144 = .ok (.iload 8, 2) := od_21 (n := 8) (by decide +kernel)
theorem dX3_runClause_146 : decode cX3_runClause 146 = .ok (.ifCond .eq 30, 3) := od_153 (a := 0) (b := 30) (by decide +kernel) (by decide +kernel)
theorem dX3_runClause_149 : decode cX3_runClause 149 = .ok (.iload 5, 2) := od_21 (n := 5) (by decide +kernel)
theorem dX3_runClause_151 : decode cX3_runClause 151 = .ok (.iconst 1, 1) := od_4  (by decide +kernel)
theorem dX3_runClause_152 : decode cX3_runClause 152 = .ok (.iadd, 1) := od_96  (by decide +kernel)
theorem dX3_runClause_153 : decode cX3_runClause 153 = .ok (.iload 4, 2) := od_21 (n := 4) (by decide +kernel)
theorem dX3_runClause_155 : decode cX3_runClause 155 = .ok (.if_icmp .ge 21, 3) := od_162 (a := 0) (b := 21) (by decide +kernel) (by decide +kernel)
theorem dX3_runClause_158 : decode cX3_runClause 158 = .ok (.iload 5, 2) := od_21 (n := 5) (by decide +kernel)
theorem dX3_runClause_160 : decode cX3_runClause 160 = .ok (.iconst 1, 1) := od_4  (by decide +kernel)
theorem dX3_runClause_161 : decode cX3_runClause 161 = .ok (.iadd, 1) := od_96  (by decide +kernel)
theorem dX3_runClause_162 : decode cX3_runClause 162 = .ok (.aload_n 1, 1) := od_43  (by decide +kernel)
theorem dX3_runClause_163 : decode cX3_runClause 163 = .ok (.iload 5, 2) := od_21 (n := 5) (by decide +kernel)
theorem dX3_runClause_165 : decode cX3_runClause 165 = .ok (.iconst 1, 1) := od_4  (by decide +kernel)
theorem dX3_runClause_166 : decode cX3_runClause 166 = .ok (.iadd, 1) := od_96  (by decide +kernel)
theorem dX3_runClause_167 : decode cX3_runClause 167 = .ok (.iaload, 1) := od_46  (by decide +kernel)
theorem dX3_runClause_168 : decode cX3_runClause 168 = .ok (.iconst 1, 1) := od_4  (by decide +kernel)
theorem dX3_runClause_169 : decode cX3_runClause 169 = .ok (.isub, 1) := od_100  (by decide +kernel)
theorem dX3_runClause_170 : decode cX3_runClause 170 = .ok (.invokestatic 89, 3) := od_184 (a := 0) (b := 89) (by decide +kernel) (by decide)
theorem dX3_runClause_173 : decode cX3_runClause 173 = .ok (.goto 7, 3) := od_167 (a := 0) (b := 7) (by decide +kernel) (by decide +kernel)
theorem dX3_runClause_176 : decode cX3_runClause 176 = .ok (.iload 5, 2) := od_21 (n := 5) (by decide +kernel)
theorem dX3_runClause_178 : decode cX3_runClause 178 = .ok (.iconst 1, 1) := od_4  (by decide +kernel)
theorem dX3_runClause_179 : decode cX3_runClause 179 = .ok (.iadd, 1) := od_96  (by decide +kernel)
theorem dX3_runClause_180 : decode cX3_runClause 180 = .ok (.istore 5, 2) := od_54 (n := 5) (by decide +kernel)
theorem dX3_runClause_182 : decode cX3_runClause 182 = .ok (.goto 104, 3) := od_167 (a := 0) (b := 104) (by decide +kernel) (by decide +kernel)
theorem dX3_runClause_185 : decode cX3_runClause 185 = .ok (.iload 6, 2) := od_21 (n := 6) (by decide +kernel)
theorem dX3_runClause_187 : decode cX3_runClause 187 = .ok (.bipush (-18), 2) := od_16 (a := 238) (by decide +kernel) (by decide +kernel)
theorem dX3_runClause_189 : decode cX3_runClause 189 = .ok (.if_icmp .ne 24, 3) := od_160 (a := 0) (b := 24) (by decide +kernel) (by decide +kernel)
theorem dX3_runClause_192 : decode cX3_runClause 192 = .ok (.aload_n 0, 1) := od_42  (by decide +kernel)
theorem dX3_runClause_193 : decode cX3_runClause 193 = .ok (.aload_n 0, 1) := od_42  (by decide +kernel)
theorem dX3_runClause_194 : decode cX3_runClause 194 = .ok (.invokevirtual 107, 3) := od_182 (a := 0) (b := 107) (by decide +kernel) (by decide)
theorem dX3_runClause_197 : decode cX3_runClause 197 = .ok (.lconst 0, 1) := od_9  (by decide +kernel)
theorem dX3_runClause_198 : decode cX3_runClause 198 = .ok (.lcmp, 1) := od_148  (by decide +kernel)
theorem dX3_runClause_199 : decode cX3_runClause 199 = .ok (.ifCond .ne 7, 3) := od_154 (a := 0) (b := 7) (by decide +kernel) (by decide +kernel)
theorem dX3_runClause_202 : decode cX3_runClause 202 = .ok (.lconst 1, 1) := od_10  (by decide +kernel)
theorem dX3_runClause_203 : decode cX3_runClause 203 = .ok (.goto 4, 3) := od_167 (a := 0) (b := 4) (by decide +kernel) (by decide +kernel)
theorem dX3_runClause_206 : decode cX3_runClause 206 = .ok (.lconst 0, 1) := od_9  (by decide +kernel)
theorem dX3_runClause_207 : decode cX3_runClause 207 = .ok (.invokevirtual 103, 3) := od_182 (a := 0) (b := 103) (by decide +kernel) (by decide)
theorem dX3_runClause_210 : decode cX3_runClause 210 = .ok (.goto 76, 3) := od_167 (a := 0) (b := 76) (by decide +kernel) (by decide +kernel)
theorem dX3_runClause_213 : decode cX3_runClause 213 = .ok (.iload 6, 2) := od_21 (n := 6) (by decide +kernel)
theorem dX3_runClause_215 : decode cX3_runClause 215 = .ok (.bipush (-21), 2) := od_16 (a := 235) (by decide +kernel) (by decide +kernel)
theorem dX3_runClause_217 : decode cX3_runClause 217 = .ok (.if_icmp .ne 13, 3) := od_160 (a := 0) (b := 13) (by decide +kernel) (by decide +kernel)
theorem dX3_runClause_220 : decode cX3_runClause 220 = .ok (.aload_n 0, 1) := od_42  (by decide +kernel)
theorem dX3_runClause_221 : decode cX3_runClause 221 = .ok (.invokevirtual 107, 3) := od_182 (a := 0) (b := 107) (by decide +kernel) (by decide)
theorem dX3_runClause_224 : decode cX3_runClause 224 = .ok (.lconst 0, 1) := od_9  (by decide +kernel)
theorem dX3_runClause_225 : decode cX3_runClause 225 = .ok (.lcmp, 1) := od_148  (by decide +kernel)
theorem dX3_runClause_226 : decode cX3_runClause 226 = .ok (.ifCond .ne 60, 3) := od_154 (a := 0) (b := 60) (by decide +kernel) (by decide +kernel)
theorem dX3_runClause_229 : decode cX3_runClause 229 = .ok (.return_, 1) := od_177  (by decide +kernel)
theorem dX3_runClause_230 : decode cX3_runClause 230 = .ok (.iload 6, 2) := od_21 (n := 6) (by decide +kernel)
theorem dX3_runClause_232 : decode cX3_runClause 232 = .ok (.bipush (-22), 2) := od_16 (a := 234) (by decide +kernel) (by decide +kernel)
theorem dX3_runClause_234 : decode cX3_runClause 234 = .ok (.if_icmp .ne 19, 3) := od_160 (a := 0) (b := 19) (by decide +kernel) (by decide +kernel)
theorem dX3_runClause_237 : decode cX3_runClause 237 = .ok (.aload_n 0, 1) := od_42  (by decide +kernel)
theorem dX3_runClause_238 : decode cX3_runClause 238 = .ok (.dup, 1) := od_89  (by decide +kernel)
theorem dX3_runClause_239 : decode cX3_runClause 239 = .ok (.getfield 22, 3) := od_180 (a := 0) (b := 22) (by decide +kernel) (by decide)
theorem dX3_runClause_242 : decode cX3_runClause 242 = .ok (.aload_n 0, 1) := od_42  (by decide +kernel)
theorem dX3_runClause_243 : decode cX3_runClause 243 = .ok (.invokevirtual 107, 3) := od_182 (a := 0) (b := 107) (by decide +kernel) (by decide)
theorem dX3_runClause_246 : decode cX3_runClause 246 = .ok (.ladd, 1) := od_97  (by decide +kernel)
theorem dX3_runClause_247 : decode cX3_runClause 247 = .ok (.putfield 22, 3) := od_181 (a := 0) (b := 22) (by decide +kernel) (by decide)
theorem dX3_runClause_250 : decode cX3_runClause 250 = .ok (.goto 36, 3) := od_167 (a := 0) (b := 36) (by decide +kernel) (by decide +kernel)
theorem dX3_runClause_253 : decode cX3_runClause 253 = .ok (.iload 6, 2) := od_21 (n := 6) (by decide +kernel)
theorem dX3_runClause_255 : decode cX3_runClause 255 = .ok (.bipush (-23), 2) := od_16 (a := 233) (by decide +kernel) (by decide +kernel)
theorem dX3_runClause_257 : decode cX3_runClause 257 = .ok (.if_icmp .ne 19, 3) := od_160 (a := 0) (b := 19) (by decide +kernel) (by decide +kernel)
theorem dX3_runClause_260 : decode cX3_runClause 260 = .ok (.aload_n 0, 1) := od_42  (by decide +kernel)
theorem dX3_runClause_261 : decode cX3_runClause 261 = .ok (.dup, 1) := od_89  (by decide +kernel)
theorem dX3_runClause_262 : decode cX3_runClause 262 = .ok (.getfield 26, 3) := od_180 (a := 0) (b := 26) (by decide +kernel) (by decide)
theorem dX3_runClause_265 : decode cX3_runClause 265 = .ok (.aload_n 0, 1) := od_42  (by decide +kernel)
theorem dX3_runClause_266 : decode cX3_runClause 266 = .ok (.invokevirtual 107, 3) := od_182 (a := 0) (b := 107) (by decide +kernel) (by decide)
theorem dX3_runClause_269 : decode cX3_runClause 269 = .ok (.ladd, 1) := od_97  (by decide +kernel)
theorem dX3_runClause_270 : decode cX3_runClause 270 = .ok (.putfield 26, 3) := od_181 (a := 0) (b := 26) (by decide +kernel) (by decide)
theorem dX3_runClause_273 : decode cX3_runClause 273 = .ok (.goto 13, 3) := od_167 (a := 0) (b := 13) (by decide +kernel) (by decide +kernel)
theorem dX3_runClause_276 : decode cX3_runClause 276 = .ok (.aload_n 0, 1) := od_42  (by decide +kernel)
theorem dX3_runClause_277 : decode cX3_runClause 277 = .ok (.iload 6, 2) := od_21 (n := 6) (by decide +kernel)
theorem dX3_runClause_279 : decode cX3_runClause 279 = .ok (.invokevirtual 111, 3) := od_182 (a := 0) (b := 111) (by decide +kernel) (by decide)
theorem dX3_runClause_282 : decode cX3_runClause 282 = .ok (.ifCond .ne 4, 3) := od_154 (a := 0) (b := 4) (by decide +kernel) (by decide +kernel)
theorem dX3_runClause_285 : decode cX3_runClause 285 = .ok (.return_, 1) := od_177  (by decide +kernel)
theorem dX3_runClause_286 : decode cX3_runClause 286 = .ok (.iinc 5 1, 3) := od_132 (a := 5) (b := 1) (by decide +kernel) (by decide +kernel)
theorem dX3_runClause_289 : decode cX3_runClause 289 = .ok (.goto (-269), 3) := od_167 (a := 254) (b := 243) (by decide +kernel) (by decide +kernel)
theorem dX3_runClause_292 : decode cX3_runClause 292 = .ok (.return_, 1) := od_177  (by decide +kernel)
theorem gX3_combine_X3_pop : GoodIn WALL (wsV RX3 107 RX3 yX3_pop wqX3_pop) := wg_V wa_1168 wa_1169 wa_1170 wa_27 wa_1171
theorem gX3_combine_X3_pushSum : GoodIn WALL (wsV RX3 115 RX3 yX3_pushSum wqX3_pushSum) := wg_V wa_1180 wa_1181 wa_1182 wa_27 wa_1183
theorem dX3_combine_0 : decode cX3_combine 0 = .ok (.aload_n 0, 1) := od_42  (by decide +kernel)
theorem dX3_combine_1 : decode cX3_combine 1 = .ok (.invokevirtual 107, 3) := od_182 (a := 0) (b := 107) (by decide +kernel) (by decide)
theorem dX3_combine_4 : decode cX3_combine 4 = .ok (.lstore_n 2, 1) := od_65  (by decide +kernel)
theorem dX3_combine_5 : decode cX3_combine 5 = .ok (.aload_n 0, 1) := od_42  (by decide +kernel)
theorem dX3_combine_6 : decode cX3_combine 6 = .ok (.invokevirtual 107, 3) := od_182 (a := 0) (b := 107) (by decide +kernel) (by decide)
theorem dX3_combine_9 : decode cX3_combine 9 = .ok (.lstore 4, 2) := od_55 (n := 4) (by decide +kernel)
theorem dX3_combine_11 : decode cX3_combine 11 = .ok (.iload_n 1, 1) := od_27  (by decide +kernel)
theorem dX3_combine_12 : decode cX3_combine 12 = .ok (.tableswitch 155 (-16) (-11) #[138, 121, 98, 58, 49, 40], 40) := by decide +kernel
theorem dX3_combine_52 : decode cX3_combine 52 = .ok (.aload_n 0, 1) := od_42  (by decide +kernel)
theorem dX3_combine_53 : decode cX3_combine 53 = .ok (.lload 4, 2) := od_22 (n := 4) (by decide +kernel)
theorem dX3_combine_55 : decode cX3_combine 55 = .ok (.lload_n 2, 1) := od_32  (by decide +kernel)
theorem dX3_combine_56 : decode cX3_combine 56 = .ok (.ladd, 1) := od_97  (by decide +kernel)
theorem dX3_combine_57 : decode cX3_combine 57 = .ok (.invokevirtual 115, 3) := od_182 (a := 0) (b := 115) (by decide +kernel) (by decide)
theorem dX3_combine_60 : decode cX3_combine 60 = .ok (.ireturn, 1) := od_172  (by decide +kernel)
theorem dX3_combine_61 : decode cX3_combine 61 = .ok (.aload_n 0, 1) := od_42  (by decide +kernel)
theorem dX3_combine_62 : decode cX3_combine 62 = .ok (.lload 4, 2) := od_22 (n := 4) (by decide +kernel)
theorem dX3_combine_64 : decode cX3_combine 64 = .ok (.lload_n 2, 1) := od_32  (by decide +kernel)
theorem dX3_combine_65 : decode cX3_combine 65 = .ok (.lsub, 1) := od_101  (by decide +kernel)
theorem dX3_combine_66 : decode cX3_combine 66 = .ok (.invokevirtual 115, 3) := od_182 (a := 0) (b := 115) (by decide +kernel) (by decide)
theorem dX3_combine_69 : decode cX3_combine 69 = .ok (.ireturn, 1) := od_172  (by decide +kernel)
theorem dX3_combine_70 : decode cX3_combine 70 = .ok (.lload_n 2, 1) := od_32  (by decide +kernel)
theorem dX3_combine_71 : decode cX3_combine 71 = .ok (.lconst 0, 1) := od_9  (by decide +kernel)
theorem dX3_combine_72 : decode cX3_combine 72 = .ok (.lcmp, 1) := od_148  (by decide +kernel)
theorem dX3_combine_73 : decode cX3_combine 73 = .ok (.ifCond .eq 20, 3) := od_153 (a := 0) (b := 20) (by decide +kernel) (by decide +kernel)
theorem dX3_combine_76 : decode cX3_combine 76 = .ok (.lload 4, 2) := od_22 (n := 4) (by decide +kernel)
theorem dX3_combine_78 : decode cX3_combine 78 = .ok (.invokestatic 119, 3) := od_184 (a := 0) (b := 119) (by decide +kernel) (by decide)
theorem dX3_combine_81 : decode cX3_combine 81 = .ok (.ldc2_w 123, 3) := od_20 (a := 0) (b := 123) (by decide +kernel) (by decide)
theorem dX3_combine_84 : decode cX3_combine 84 = .ok (.lload_n 2, 1) := od_32  (by decide +kernel)
theorem dX3_combine_85 : decode cX3_combine 85 = .ok (.invokestatic 119, 3) := od_184 (a := 0) (b := 119) (by decide +kernel) (by decide)
theorem dX3_combine_88 : decode cX3_combine 88 = .ok (.ldiv, 1) := od_109  (by decide +kernel)
theorem dX3_combine_89 : decode cX3_combine 89 = .ok (.lcmp, 1) := od_148  (by decide +kernel)
theorem dX3_combine_90 : decode cX3_combine 90 = .ok (.ifCond .gt 18, 3) := od_157 (a := 0) (b := 18) (by decide +kernel) (by decide +kernel)
theorem dX3_combine_93 : decode cX3_combine 93 = .ok (.aload_n 0, 1) := od_42  (by decide +kernel)
theorem dX3_combine_94 : decode cX3_combine 94 = .ok (.lload 4, 2) := od_22 (n := 4) (by decide +kernel)
theorem dX3_combine_96 : decode cX3_combine 96 = .ok (.lload_n 2, 1) := od_32  (by decide +kernel)
theorem dX3_combine_97 : decode cX3_combine 97 = .ok (.lmul, 1) := od_105  (by decide +kernel)
theorem dX3_combine_98 : decode cX3_combine 98 = .ok (.invokevirtual 115, 3) := od_182 (a := 0) (b := 115) (by decide +kernel) (by decide)
theorem dX3_combine_101 : decode cX3_combine 101 = .ok (.ifCond .eq 7, 3) := od_153 (a := 0) (b := 7) (by decide +kernel) (by decide +kernel)
theorem dX3_combine_104 : decode cX3_combine 104 = .ok (.iconst 1, 1) := od_4  (by decide +kernel)
theorem dX3_combine_105 : decode cX3_combine 105 = .ok (.goto 4, 3) := od_167 (a := 0) (b := 4) (by decide +kernel) (by decide +kernel)
theorem dX3_combine_108 : decode cX3_combine 108 = .ok (.iconst 0, 1) := od_3  (by decide +kernel)
theorem dX3_combine_109 : decode cX3_combine 109 = .ok (.ireturn, 1) := od_172  (by decide +kernel)
theorem dX3_combine_110 : decode cX3_combine 110 = .ok (.lload_n 2, 1) := od_32  (by decide +kernel)
theorem dX3_combine_111 : decode cX3_combine 111 = .ok (.lconst 0, 1) := od_9  (by decide +kernel)
theorem dX3_combine_112 : decode cX3_combine 112 = .ok (.lcmp, 1) := od_148  (by decide +kernel)
theorem dX3_combine_113 : decode cX3_combine 113 = .ok (.ifCond .eq 18, 3) := od_153 (a := 0) (b := 18) (by decide +kernel) (by decide +kernel)
theorem dX3_combine_116 : decode cX3_combine 116 = .ok (.aload_n 0, 1) := od_42  (by decide +kernel)
theorem dX3_combine_117 : decode cX3_combine 117 = .ok (.lload 4, 2) := od_22 (n := 4) (by decide +kernel)
theorem dX3_combine_119 : decode cX3_combine 119 = .ok (.lload_n 2, 1) := od_32  (by decide +kernel)
theorem dX3_combine_120 : decode cX3_combine 120 = .ok (.ldiv, 1) := od_109  (by decide +kernel)
theorem dX3_combine_121 : decode cX3_combine 121 = .ok (.invokevirtual 115, 3) := od_182 (a := 0) (b := 115) (by decide +kernel) (by decide)
theorem dX3_combine_124 : decode cX3_combine 124 = .ok (.ifCond .eq 7, 3) := od_153 (a := 0) (b := 7) (by decide +kernel) (by decide +kernel)
theorem dX3_combine_127 : decode cX3_combine 127 = .ok (.iconst 1, 1) := od_4  (by decide +kernel)
theorem dX3_combine_128 : decode cX3_combine 128 = .ok (.goto 4, 3) := od_167 (a := 0) (b := 4) (by decide +kernel) (by decide +kernel)
theorem dX3_combine_131 : decode cX3_combine 131 = .ok (.iconst 0, 1) := od_3  (by decide +kernel)
theorem dX3_combine_132 : decode cX3_combine 132 = .ok (.ireturn, 1) := od_172  (by decide +kernel)
theorem dX3_combine_133 : decode cX3_combine 133 = .ok (.aload_n 0, 1) := od_42  (by decide +kernel)
theorem dX3_combine_134 : decode cX3_combine 134 = .ok (.lload 4, 2) := od_22 (n := 4) (by decide +kernel)
theorem dX3_combine_136 : decode cX3_combine 136 = .ok (.lload_n 2, 1) := od_32  (by decide +kernel)
theorem dX3_combine_137 : decode cX3_combine 137 = .ok (.lcmp, 1) := od_148  (by decide +kernel)
theorem dX3_combine_138 : decode cX3_combine 138 = .ok (.ifCond .ge 7, 3) := od_156 (a := 0) (b := 7) (by decide +kernel) (by decide +kernel)
theorem dX3_combine_141 : decode cX3_combine 141 = .ok (.lconst 1, 1) := od_10  (by decide +kernel)
theorem dX3_combine_142 : decode cX3_combine 142 = .ok (.goto 4, 3) := od_167 (a := 0) (b := 4) (by decide +kernel) (by decide +kernel)
theorem dX3_combine_145 : decode cX3_combine 145 = .ok (.lconst 0, 1) := od_9  (by decide +kernel)
theorem dX3_combine_146 : decode cX3_combine 146 = .ok (.invokevirtual 115, 3) := od_182 (a := 0) (b := 115) (by decide +kernel) (by decide)
theorem dX3_combine_149 : decode cX3_combine 149 = .ok (.ireturn, 1) := od_172  (by decide +kernel)
theorem dX3_combine_150 : decode cX3_combine 150 = .ok (.aload_n 0, 1) := od_42  (by decide +kernel)
theorem dX3_combine_151 : decode cX3_combine 151 = .ok (.lload 4, 2) := od_22 (n := 4) (by decide +kernel)
theorem dX3_combine_153 : decode cX3_combine 153 = .ok (.lload_n 2, 1) := od_32  (by decide +kernel)
theorem dX3_combine_154 : decode cX3_combine 154 = .ok (.lcmp, 1) := od_148  (by decide +kernel)
theorem dX3_combine_155 : decode cX3_combine 155 = .ok (.ifCond .le 7, 3) := od_158 (a := 0) (b := 7) (by decide +kernel) (by decide +kernel)
theorem dX3_combine_158 : decode cX3_combine 158 = .ok (.lconst 1, 1) := od_10  (by decide +kernel)
theorem dX3_combine_159 : decode cX3_combine 159 = .ok (.goto 4, 3) := od_167 (a := 0) (b := 4) (by decide +kernel) (by decide +kernel)
theorem dX3_combine_162 : decode cX3_combine 162 = .ok (.lconst 0, 1) := od_9  (by decide +kernel)
theorem dX3_combine_163 : decode cX3_combine 163 = .ok (.invokevirtual 115, 3) := od_182 (a := 0) (b := 115) (by decide +kernel) (by decide)
theorem dX3_combine_166 : decode cX3_combine 166 = .ok (.ireturn, 1) := od_172  (by decide +kernel)
theorem dX3_combine_167 : decode cX3_combine 167 = .ok (.aload_n 0, 1) := od_42  (by decide +kernel)
theorem dX3_combine_168 : decode cX3_combine 168 = .ok (.lload 4, 2) := od_22 (n := 4) (by decide +kernel)
theorem dX3_combine_170 : decode cX3_combine 170 = .ok (.lload_n 2, 1) := od_32  (by decide +kernel)
theorem dX3_combine_171 : decode cX3_combine 171 = .ok (.lcmp, 1) := od_148  (by decide +kernel)
theorem dX3_combine_172 : decode cX3_combine 172 = .ok (.ifCond .ne 7, 3) := od_154 (a := 0) (b := 7) (by decide +kernel) (by decide +kernel)
theorem dX3_combine_175 : decode cX3_combine 175 = .ok (.lconst 1, 1) := od_10  (by decide +kernel)
theorem dX3_combine_176 : decode cX3_combine 176 = .ok (.goto 4, 3) := od_167 (a := 0) (b := 4) (by decide +kernel) (by decide +kernel)
theorem dX3_combine_179 : decode cX3_combine 179 = .ok (.lconst 0, 1) := od_9  (by decide +kernel)
theorem dX3_combine_180 : decode cX3_combine 180 = .ok (.invokevirtual 115, 3) := od_182 (a := 0) (b := 115) (by decide +kernel) (by decide)
theorem dX3_combine_183 : decode cX3_combine 183 = .ok (.ireturn, 1) := od_172  (by decide +kernel)
theorem gX3_pushSum_X3_push : GoodIn WALL (wsV RX3 103 RX3 yX3_push wqX3_push) := wg_V wa_1164 wa_1165 wa_1166 wa_27 wa_1167
theorem dX3_pushSum_0 : decode cX3_pushSum 0 = .ok (.aload_n 0, 1) := od_42  (by decide +kernel)
theorem dX3_pushSum_1 : decode cX3_pushSum 1 = .ok (.lload_n 1, 1) := od_31  (by decide +kernel)
theorem dX3_pushSum_2 : decode cX3_pushSum 2 = .ok (.invokevirtual 103, 3) := od_182 (a := 0) (b := 103) (by decide +kernel) (by decide)
theorem dX3_pushSum_5 : decode cX3_pushSum 5 = .ok (.lload_n 1, 1) := od_31  (by decide +kernel)
theorem dX3_pushSum_6 : decode cX3_pushSum 6 = .ok (.invokestatic 119, 3) := od_184 (a := 0) (b := 119) (by decide +kernel) (by decide)
theorem dX3_pushSum_9 : decode cX3_pushSum 9 = .ok (.ldc2_w 123, 3) := od_20 (a := 0) (b := 123) (by decide +kernel) (by decide)
theorem dX3_pushSum_12 : decode cX3_pushSum 12 = .ok (.lcmp, 1) := od_148  (by decide +kernel)
theorem dX3_pushSum_13 : decode cX3_pushSum 13 = .ok (.ifCond .gt 7, 3) := od_157 (a := 0) (b := 7) (by decide +kernel) (by decide +kernel)
theorem dX3_pushSum_16 : decode cX3_pushSum 16 = .ok (.iconst 1, 1) := od_4  (by decide +kernel)
theorem dX3_pushSum_17 : decode cX3_pushSum 17 = .ok (.goto 4, 3) := od_167 (a := 0) (b := 4) (by decide +kernel) (by decide +kernel)
theorem dX3_pushSum_20 : decode cX3_pushSum 20 = .ok (.iconst 0, 1) := od_3  (by decide +kernel)
theorem dX3_pushSum_21 : decode cX3_pushSum 21 = .ok (.ireturn, 1) := od_172  (by decide +kernel)
theorem dX3_push_0 : decode cX3_push 0 = .ok (.aload_n 0, 1) := od_42  (by decide +kernel)
theorem dX3_push_1 : decode cX3_push 1 = .ok (.getfield 97, 3) := od_180 (a := 0) (b := 97) (by decide +kernel) (by decide)
theorem dX3_push_4 : decode cX3_push 4 = .ok (.aload_n 0, 1) := od_42  (by decide +kernel)
theorem dX3_push_5 : decode cX3_push 5 = .ok (.getfield 15, 3) := od_180 (a := 0) (b := 15) (by decide +kernel) (by decide)
theorem dX3_push_8 : decode cX3_push 8 = .ok (.arraylength, 1) := od_190  (by decide +kernel)
theorem dX3_push_9 : decode cX3_push 9 = .ok (.if_icmp .ge 23, 3) := od_162 (a := 0) (b := 23) (by decide +kernel) (by decide +kernel)
theorem dX3_push_12 : decode cX3_push 12 = .ok (.aload_n 0, 1) := od_42  (by decide +kernel)
theorem dX3_push_13 : decode cX3_push 13 = .ok (.getfield 15, 3) := od_180 (a := 0) (b := 15) (by decide +kernel) (by decide)
theorem dX3_push_16 : decode cX3_push 16 = .ok (.aload_n 0, 1) := od_42  (by decide +kernel)
theorem dX3_push_17 : decode cX3_push 17 = .ok (.getfield 97, 3) := od_180 (a := 0) (b := 97) (by decide +kernel) (by decide)
theorem dX3_push_20 : decode cX3_push 20 = .ok (.lload_n 1, 1) := od_31  (by decide +kernel)
theorem dX3_push_21 : decode cX3_push 21 = .ok (.lastore, 1) := od_80  (by decide +kernel)
theorem dX3_push_22 : decode cX3_push 22 = .ok (.aload_n 0, 1) := od_42  (by decide +kernel)
theorem dX3_push_23 : decode cX3_push 23 = .ok (.dup, 1) := od_89  (by decide +kernel)
theorem dX3_push_24 : decode cX3_push 24 = .ok (.getfield 97, 3) := od_180 (a := 0) (b := 97) (by decide +kernel) (by decide)
theorem dX3_push_27 : decode cX3_push 27 = .ok (.iconst 1, 1) := od_4  (by decide +kernel)
theorem dX3_push_28 : decode cX3_push 28 = .ok (.iadd, 1) := od_96  (by decide +kernel)
theorem dX3_push_29 : decode cX3_push 29 = .ok (.putfield 97, 3) := od_181 (a := 0) (b := 97) (by decide +kernel) (by decide)
theorem dX3_push_32 : decode cX3_push 32 = .ok (.return_, 1) := od_177  (by decide +kernel)
theorem dX3_pop_0 : decode cX3_pop 0 = .ok (.aload_n 0, 1) := od_42  (by decide +kernel)
theorem dX3_pop_1 : decode cX3_pop 1 = .ok (.getfield 97, 3) := od_180 (a := 0) (b := 97) (by decide +kernel) (by decide)
theorem dX3_pop_4 : decode cX3_pop 4 = .ok (.ifCond .ne 5, 3) := od_154 (a := 0) (b := 5) (by decide +kernel) (by decide +kernel)
theorem dX3_pop_7 : decode cX3_pop 7 = .ok (.lconst 0, 1) := od_9  (by decide +kernel)
theorem dX3_pop_8 : decode cX3_pop 8 = .ok (.lreturn, 1) := od_173  (by decide +kernel)
theorem dX3_pop_9 : decode cX3_pop 9 = .ok (.aload_n 0, 1) := od_42  (by decide +kernel)
theorem dX3_pop_10 : decode cX3_pop 10 = .ok (.dup, 1) := od_89  (by decide +kernel)
theorem dX3_pop_11 : decode cX3_pop 11 = .ok (.getfield 97, 3) := od_180 (a := 0) (b := 97) (by decide +kernel) (by decide)
theorem dX3_pop_14 : decode cX3_pop 14 = .ok (.iconst 1, 1) := od_4  (by decide +kernel)
theorem dX3_pop_15 : decode cX3_pop 15 = .ok (.isub, 1) := od_100  (by decide +kernel)
theorem dX3_pop_16 : decode cX3_pop 16 = .ok (.putfield 97, 3) := od_181 (a := 0) (b := 97) (by decide +kernel) (by decide)
theorem dX3_pop_19 : decode cX3_pop 19 = .ok (.aload_n 0, 1) := od_42  (by decide +kernel)
theorem dX3_pop_20 : decode cX3_pop 20 = .ok (.getfield 15, 3) := od_180 (a := 0) (b := 15) (by decide +kernel) (by decide)
theorem dX3_pop_23 : decode cX3_pop 23 = .ok (.aload_n 0, 1) := od_42  (by decide +kernel)
theorem dX3_pop_24 : decode cX3_pop 24 = .ok (.getfield 97, 3) := od_180 (a := 0) (b := 97) (by decide +kernel) (by decide)
theorem dX3_pop_27 : decode cX3_pop 27 = .ok (.laload, 1) := od_47  (by decide +kernel)
theorem dX3_pop_28 : decode cX3_pop 28 = .ok (.lreturn, 1) := od_173  (by decide +kernel)
theorem gX3_tonsRead_X4_number : GoodIn WALL (wsV RX3 52 RX4 yX4_number wqX4_number) := wg_V wa_1141 wa_679 wa_680 wa_56 wa_681
theorem gX3_tonsRead_X10_hasShip : GoodIn WALL (wsV RX3 125 RX10 yX10_hasShip wqX10_hasShip) := wg_V wa_1289 wa_327 wa_328 wa_14 wa_329
theorem gX3_tonsRead_X5_gaugeCounts : GoodIn WALL (wsV RX3 132 RX5 yX5_gaugeCounts wqX5_gaugeCounts) := wg_V wa_1290 wa_1291 wa_1292 wa_64 wa_1293
theorem gX3_tonsRead_X4_at : GoodIn WALL (wsV RX3 62 RX4 yX4_at wqX4_at) := wg_V wa_1142 wa_683 wa_684 wa_56 wa_685
theorem gX3_tonsRead_X5_tonsAt : GoodIn WALL (wsV RX3 149 RX5 yX5_tonsAt wqX5_tonsAt) := wg_V wa_1294 wa_1295 wa_1296 wa_64 wa_1297
theorem dX3_tonsRead_0 : decode cX3_tonsRead 0 = .ok (.aload_n 0, 1) := od_42  (by decide +kernel)
theorem dX3_tonsRead_1 : decode cX3_tonsRead 1 = .ok (.getfield 18, 3) := od_180 (a := 0) (b := 18) (by decide +kernel) (by decide)
theorem dX3_tonsRead_4 : decode cX3_tonsRead 4 = .ok (.getfield 46, 3) := od_180 (a := 0) (b := 46) (by decide +kernel) (by decide)
theorem dX3_tonsRead_7 : decode cX3_tonsRead 7 = .ok (.iload_n 1, 1) := od_27  (by decide +kernel)
theorem dX3_tonsRead_8 : decode cX3_tonsRead 8 = .ok (.iconst 0, 1) := od_3  (by decide +kernel)
theorem dX3_tonsRead_9 : decode cX3_tonsRead 9 = .ok (.invokevirtual 52, 3) := od_182 (a := 0) (b := 52) (by decide +kernel) (by decide)
theorem dX3_tonsRead_12 : decode cX3_tonsRead 12 = .ok (.istore 4, 2) := od_54 (n := 4) (by decide +kernel)
theorem dX3_tonsRead_14 : decode cX3_tonsRead 14 = .ok (.aload_n 0, 1) := od_42  (by decide +kernel)
theorem dX3_tonsRead_15 : decode cX3_tonsRead 15 = .ok (.getfield 18, 3) := od_180 (a := 0) (b := 18) (by decide +kernel) (by decide)
theorem dX3_tonsRead_18 : decode cX3_tonsRead 18 = .ok (.iload 4, 2) := od_21 (n := 4) (by decide +kernel)
theorem dX3_tonsRead_20 : decode cX3_tonsRead 20 = .ok (.invokevirtual 125, 3) := od_182 (a := 0) (b := 125) (by decide +kernel) (by decide)
theorem dX3_tonsRead_23 : decode cX3_tonsRead 23 = .ok (.ifCond .eq 19, 3) := od_153 (a := 0) (b := 19) (by decide +kernel) (by decide +kernel)
theorem dX3_tonsRead_26 : decode cX3_tonsRead 26 = .ok (.aload_n 0, 1) := od_42  (by decide +kernel)
theorem dX3_tonsRead_27 : decode cX3_tonsRead 27 = .ok (.getfield 18, 3) := od_180 (a := 0) (b := 18) (by decide +kernel) (by decide)
theorem dX3_tonsRead_30 : decode cX3_tonsRead 30 = .ok (.getfield 128, 3) := od_180 (a := 0) (b := 128) (by decide +kernel) (by decide)
theorem dX3_tonsRead_33 : decode cX3_tonsRead 33 = .ok (.iload 4, 2) := od_21 (n := 4) (by decide +kernel)
theorem dX3_tonsRead_35 : decode cX3_tonsRead 35 = .ok (.aaload, 1) := od_50  (by decide +kernel)
theorem dX3_tonsRead_36 : decode cX3_tonsRead 36 = .ok (.invokevirtual 132, 3) := od_182 (a := 0) (b := 132) (by decide +kernel) (by decide)
theorem dX3_tonsRead_39 : decode cX3_tonsRead 39 = .ok (.ifCond .ne 7, 3) := od_154 (a := 0) (b := 7) (by decide +kernel) (by decide +kernel)
theorem dX3_tonsRead_42 : decode cX3_tonsRead 42 = .ok (.ldc2_w 138, 3) := od_20 (a := 0) (b := 138) (by decide +kernel) (by decide)
theorem dX3_tonsRead_45 : decode cX3_tonsRead 45 = .ok (.lreturn, 1) := od_173  (by decide +kernel)
theorem dX3_tonsRead_46 : decode cX3_tonsRead 46 = .ok (.aload_n 0, 1) := od_42  (by decide +kernel)
theorem dX3_tonsRead_47 : decode cX3_tonsRead 47 = .ok (.getfield 18, 3) := od_180 (a := 0) (b := 18) (by decide +kernel) (by decide)
theorem dX3_tonsRead_50 : decode cX3_tonsRead 50 = .ok (.getfield 140, 3) := od_180 (a := 0) (b := 140) (by decide +kernel) (by decide)
theorem dX3_tonsRead_53 : decode cX3_tonsRead 53 = .ok (.getfield 143, 3) := od_180 (a := 0) (b := 143) (by decide +kernel) (by decide)
theorem dX3_tonsRead_56 : decode cX3_tonsRead 56 = .ok (.iconst 1, 1) := od_4  (by decide +kernel)
theorem dX3_tonsRead_57 : decode cX3_tonsRead 57 = .ok (.isub, 1) := od_100  (by decide +kernel)
theorem dX3_tonsRead_58 : decode cX3_tonsRead 58 = .ok (.istore 5, 2) := od_54 (n := 5) (by decide +kernel)
theorem dX3_tonsRead_60 : decode cX3_tonsRead 60 = .ok (.iload 5, 2) := od_21 (n := 5) (by decide +kernel)
theorem dX3_tonsRead_62 : decode cX3_tonsRead 62 = .ok (.ifCond .lt 125, 3) := od_155 (a := 0) (b := 125) (by decide +kernel) (by decide +kernel)
theorem dX3_tonsRead_65 : decode cX3_tonsRead 65 = .ok (.aload_n 0, 1) := od_42  (by decide +kernel)
theorem dX3_tonsRead_66 : decode cX3_tonsRead 66 = .ok (.getfield 18, 3) := od_180 (a := 0) (b := 18) (by decide +kernel) (by decide)
theorem dX3_tonsRead_69 : decode cX3_tonsRead 69 = .ok (.getfield 140, 3) := od_180 (a := 0) (b := 140) (by decide +kernel) (by decide)
theorem dX3_tonsRead_72 : decode cX3_tonsRead 72 = .ok (.iload 5, 2) := od_21 (n := 5) (by decide +kernel)
theorem dX3_tonsRead_74 : decode cX3_tonsRead 74 = .ok (.iconst 0, 1) := od_3  (by decide +kernel)
theorem dX3_tonsRead_75 : decode cX3_tonsRead 75 = .ok (.invokevirtual 62, 3) := od_182 (a := 0) (b := 62) (by decide +kernel) (by decide)
theorem dX3_tonsRead_78 : decode cX3_tonsRead 78 = .ok (.iload_n 1, 1) := od_27  (by decide +kernel)
theorem dX3_tonsRead_79 : decode cX3_tonsRead 79 = .ok (.i2l, 1) := od_133  (by decide +kernel)
theorem dX3_tonsRead_80 : decode cX3_tonsRead 80 = .ok (.lcmp, 1) := od_148  (by decide +kernel)
theorem dX3_tonsRead_81 : decode cX3_tonsRead 81 = .ok (.ifCond .ne 100, 3) := od_154 (a := 0) (b := 100) (by decide +kernel) (by decide +kernel)
theorem dX3_tonsRead_84 : decode cX3_tonsRead 84 = .ok (.aload_n 0, 1) := od_42  (by decide +kernel)
theorem dX3_tonsRead_85 : decode cX3_tonsRead 85 = .ok (.getfield 18, 3) := od_180 (a := 0) (b := 18) (by decide +kernel) (by decide)
theorem dX3_tonsRead_88 : decode cX3_tonsRead 88 = .ok (.getfield 140, 3) := od_180 (a := 0) (b := 140) (by decide +kernel) (by decide)
theorem dX3_tonsRead_91 : decode cX3_tonsRead 91 = .ok (.iload 5, 2) := od_21 (n := 5) (by decide +kernel)
theorem dX3_tonsRead_93 : decode cX3_tonsRead 93 = .ok (.iconst 1, 1) := od_4  (by decide +kernel)
theorem dX3_tonsRead_94 : decode cX3_tonsRead 94 = .ok (.invokevirtual 62, 3) := od_182 (a := 0) (b := 62) (by decide +kernel) (by decide)
theorem dX3_tonsRead_97 : decode cX3_tonsRead 97 = .ok (.iload_n 2, 1) := od_28  (by decide +kernel)
theorem dX3_tonsRead_98 : decode cX3_tonsRead 98 = .ok (.i2l, 1) := od_133  (by decide +kernel)
theorem dX3_tonsRead_99 : decode cX3_tonsRead 99 = .ok (.lcmp, 1) := od_148  (by decide +kernel)
theorem dX3_tonsRead_100 : decode cX3_tonsRead 100 = .ok (.ifCond .ne 81, 3) := od_154 (a := 0) (b := 81) (by decide +kernel) (by decide +kernel)
theorem dX3_tonsRead_103 : decode cX3_tonsRead 103 = .ok (.aload_n 0, 1) := od_42  (by decide +kernel)
theorem dX3_tonsRead_104 : decode cX3_tonsRead 104 = .ok (.getfield 18, 3) := od_180 (a := 0) (b := 18) (by decide +kernel) (by decide)
theorem dX3_tonsRead_107 : decode cX3_tonsRead 107 = .ok (.getfield 140, 3) := od_180 (a := 0) (b := 140) (by decide +kernel) (by decide)
theorem dX3_tonsRead_110 : decode cX3_tonsRead 110 = .ok (.iload 5, 2) := od_21 (n := 5) (by decide +kernel)
theorem dX3_tonsRead_112 : decode cX3_tonsRead 112 = .ok (.iconst 4, 1) := od_7  (by decide +kernel)
theorem dX3_tonsRead_113 : decode cX3_tonsRead 113 = .ok (.invokevirtual 62, 3) := od_182 (a := 0) (b := 62) (by decide +kernel) (by decide)
theorem dX3_tonsRead_116 : decode cX3_tonsRead 116 = .ok (.iload_n 3, 1) := od_29  (by decide +kernel)
theorem dX3_tonsRead_117 : decode cX3_tonsRead 117 = .ok (.i2l, 1) := od_133  (by decide +kernel)
theorem dX3_tonsRead_118 : decode cX3_tonsRead 118 = .ok (.lcmp, 1) := od_148  (by decide +kernel)
theorem dX3_tonsRead_119 : decode cX3_tonsRead 119 = .ok (.ifCond .gt 62, 3) := od_157 (a := 0) (b := 62) (by decide +kernel) (by decide +kernel)
theorem dX3_tonsRead_122 : decode cX3_tonsRead 122 = .ok (.aload_n 0, 1) := od_42  (by decide +kernel)
theorem dX3_tonsRead_123 : decode cX3_tonsRead 123 = .ok (.getfield 18, 3) := od_180 (a := 0) (b := 18) (by decide +kernel) (by decide)
theorem dX3_tonsRead_126 : decode cX3_tonsRead 126 = .ok (.getfield 140, 3) := od_180 (a := 0) (b := 140) (by decide +kernel) (by decide)
theorem dX3_tonsRead_129 : decode cX3_tonsRead 129 = .ok (.iload 5, 2) := od_21 (n := 5) (by decide +kernel)
theorem dX3_tonsRead_131 : decode cX3_tonsRead 131 = .ok (.iconst 2, 1) := od_5  (by decide +kernel)
theorem dX3_tonsRead_132 : decode cX3_tonsRead 132 = .ok (.invokevirtual 52, 3) := od_182 (a := 0) (b := 52) (by decide +kernel) (by decide)
theorem dX3_tonsRead_135 : decode cX3_tonsRead 135 = .ok (.aload_n 0, 1) := od_42  (by decide +kernel)
theorem dX3_tonsRead_136 : decode cX3_tonsRead 136 = .ok (.getfield 18, 3) := od_180 (a := 0) (b := 18) (by decide +kernel) (by decide)
theorem dX3_tonsRead_139 : decode cX3_tonsRead 139 = .ok (.getfield 140, 3) := od_180 (a := 0) (b := 140) (by decide +kernel) (by decide)
theorem dX3_tonsRead_142 : decode cX3_tonsRead 142 = .ok (.iload 5, 2) := od_21 (n := 5) (by decide +kernel)
theorem dX3_tonsRead_144 : decode cX3_tonsRead 144 = .ok (.iconst 3, 1) := od_6  (by decide +kernel)
theorem dX3_tonsRead_145 : decode cX3_tonsRead 145 = .ok (.invokevirtual 52, 3) := od_182 (a := 0) (b := 52) (by decide +kernel) (by decide)
theorem dX3_tonsRead_148 : decode cX3_tonsRead 148 = .ok (.aload_n 0, 1) := od_42  (by decide +kernel)
theorem dX3_tonsRead_149 : decode cX3_tonsRead 149 = .ok (.getfield 18, 3) := od_180 (a := 0) (b := 18) (by decide +kernel) (by decide)
theorem dX3_tonsRead_152 : decode cX3_tonsRead 152 = .ok (.getfield 128, 3) := od_180 (a := 0) (b := 128) (by decide +kernel) (by decide)
theorem dX3_tonsRead_155 : decode cX3_tonsRead 155 = .ok (.iload 4, 2) := od_21 (n := 4) (by decide +kernel)
theorem dX3_tonsRead_157 : decode cX3_tonsRead 157 = .ok (.aaload, 1) := od_50  (by decide +kernel)
theorem dX3_tonsRead_158 : decode cX3_tonsRead 158 = .ok (.getfield 146, 3) := od_180 (a := 0) (b := 146) (by decide +kernel) (by decide)
theorem dX3_tonsRead_161 : decode cX3_tonsRead 161 = .ok (.imul, 1) := od_104  (by decide +kernel)
theorem dX3_tonsRead_162 : decode cX3_tonsRead 162 = .ok (.isub, 1) := od_100  (by decide +kernel)
theorem dX3_tonsRead_163 : decode cX3_tonsRead 163 = .ok (.istore 6, 2) := od_54 (n := 6) (by decide +kernel)
theorem dX3_tonsRead_165 : decode cX3_tonsRead 165 = .ok (.aload_n 0, 1) := od_42  (by decide +kernel)
theorem dX3_tonsRead_166 : decode cX3_tonsRead 166 = .ok (.getfield 18, 3) := od_180 (a := 0) (b := 18) (by decide +kernel) (by decide)
theorem dX3_tonsRead_169 : decode cX3_tonsRead 169 = .ok (.getfield 128, 3) := od_180 (a := 0) (b := 128) (by decide +kernel) (by decide)
theorem dX3_tonsRead_172 : decode cX3_tonsRead 172 = .ok (.iload 4, 2) := od_21 (n := 4) (by decide +kernel)
theorem dX3_tonsRead_174 : decode cX3_tonsRead 174 = .ok (.aaload, 1) := od_50  (by decide +kernel)
theorem dX3_tonsRead_175 : decode cX3_tonsRead 175 = .ok (.iload 6, 2) := od_21 (n := 6) (by decide +kernel)
theorem dX3_tonsRead_177 : decode cX3_tonsRead 177 = .ok (.invokevirtual 149, 3) := od_182 (a := 0) (b := 149) (by decide +kernel) (by decide)
theorem dX3_tonsRead_180 : decode cX3_tonsRead 180 = .ok (.lreturn, 1) := od_173  (by decide +kernel)
theorem dX3_tonsRead_181 : decode cX3_tonsRead 181 = .ok (.iinc 5 (-1), 3) := od_132 (a := 5) (b := 255) (by decide +kernel) (by decide +kernel)
theorem dX3_tonsRead_184 : decode cX3_tonsRead 184 = .ok (.goto (-124), 3) := od_167 (a := 255) (b := 132) (by decide +kernel) (by decide +kernel)
theorem dX3_tonsRead_187 : decode cX3_tonsRead 187 = .ok (.ldc2_w 138, 3) := od_20 (a := 0) (b := 138) (by decide +kernel) (by decide)
theorem dX3_tonsRead_190 : decode cX3_tonsRead 190 = .ok (.lreturn, 1) := od_173  (by decide +kernel)
theorem gX3_tonsGauged_X3_tonsRead : GoodIn WALL (wsV RX3 152 RX3 yX3_tonsRead wqX3_tonsRead) := wg_V wa_1302 wa_1285 wa_1286 wa_27 wa_1287
theorem dX3_tonsGauged_0 : decode cX3_tonsGauged 0 = .ok (.aload_n 0, 1) := od_42  (by decide +kernel)
theorem dX3_tonsGauged_1 : decode cX3_tonsGauged 1 = .ok (.iload_n 1, 1) := od_27  (by decide +kernel)
theorem dX3_tonsGauged_2 : decode cX3_tonsGauged 2 = .ok (.iconst 0, 1) := od_3  (by decide +kernel)
theorem dX3_tonsGauged_3 : decode cX3_tonsGauged 3 = .ok (.iload_n 2, 1) := od_28  (by decide +kernel)
theorem dX3_tonsGauged_4 : decode cX3_tonsGauged 4 = .ok (.invokevirtual 152, 3) := od_182 (a := 0) (b := 152) (by decide +kernel) (by decide)
theorem dX3_tonsGauged_7 : decode cX3_tonsGauged 7 = .ok (.lstore_n 3, 1) := od_66  (by decide +kernel)
theorem dX3_tonsGauged_8 : decode cX3_tonsGauged 8 = .ok (.aload_n 0, 1) := od_42  (by decide +kernel)
theorem dX3_tonsGauged_9 : decode cX3_tonsGauged 9 = .ok (.iload_n 1, 1) := od_27  (by decide +kernel)
theorem dX3_tonsGauged_10 : decode cX3_tonsGauged 10 = .ok (.iconst 1, 1) := od_4  (by decide +kernel)
theorem dX3_tonsGauged_11 : decode cX3_tonsGauged 11 = .ok (.iload_n 2, 1) := od_28  (by decide +kernel)
theorem dX3_tonsGauged_12 : decode cX3_tonsGauged 12 = .ok (.invokevirtual 152, 3) := od_182 (a := 0) (b := 152) (by decide +kernel) (by decide)
theorem dX3_tonsGauged_15 : decode cX3_tonsGauged 15 = .ok (.lstore 5, 2) := od_55 (n := 5) (by decide +kernel)
theorem dX3_tonsGauged_17 : decode cX3_tonsGauged 17 = .ok (.lload_n 3, 1) := od_33  (by decide +kernel)
theorem dX3_tonsGauged_18 : decode cX3_tonsGauged 18 = .ok (.ldc2_w 138, 3) := od_20 (a := 0) (b := 138) (by decide +kernel) (by decide)
theorem dX3_tonsGauged_21 : decode cX3_tonsGauged 21 = .ok (.lcmp, 1) := od_148  (by decide +kernel)
theorem dX3_tonsGauged_22 : decode cX3_tonsGauged 22 = .ok (.ifCond .eq 12, 3) := od_153 (a := 0) (b := 12) (by decide +kernel) (by decide +kernel)
theorem dX3_tonsGauged_25 : decode cX3_tonsGauged 25 = .ok (.lload 5, 2) := od_22 (n := 5) (by decide +kernel)
theorem dX3_tonsGauged_27 : decode cX3_tonsGauged 27 = .ok (.ldc2_w 138, 3) := od_20 (a := 0) (b := 138) (by decide +kernel) (by decide)
theorem dX3_tonsGauged_30 : decode cX3_tonsGauged 30 = .ok (.lcmp, 1) := od_148  (by decide +kernel)
theorem dX3_tonsGauged_31 : decode cX3_tonsGauged 31 = .ok (.ifCond .ne 9, 3) := od_154 (a := 0) (b := 9) (by decide +kernel) (by decide +kernel)
theorem dX3_tonsGauged_34 : decode cX3_tonsGauged 34 = .ok (.ldc2_w 138, 3) := od_20 (a := 0) (b := 138) (by decide +kernel) (by decide)
theorem dX3_tonsGauged_37 : decode cX3_tonsGauged 37 = .ok (.goto 7, 3) := od_167 (a := 0) (b := 7) (by decide +kernel) (by decide +kernel)
theorem dX3_tonsGauged_40 : decode cX3_tonsGauged 40 = .ok (.lload_n 3, 1) := od_33  (by decide +kernel)
theorem dX3_tonsGauged_41 : decode cX3_tonsGauged 41 = .ok (.lload 5, 2) := od_22 (n := 5) (by decide +kernel)
theorem dX3_tonsGauged_43 : decode cX3_tonsGauged 43 = .ok (.lsub, 1) := od_101  (by decide +kernel)
theorem dX3_tonsGauged_44 : decode cX3_tonsGauged 44 = .ok (.lreturn, 1) := od_173  (by decide +kernel)
theorem gX3_claimOf_X3_tonsGauged : GoodIn WALL (wsV RX3 156 RX3 yX3_tonsGauged wqX3_tonsGauged) := wg_V wa_1307 wa_1299 wa_1300 wa_27 wa_1301
theorem gX3_claimOf_X10_billedOf : GoodIn WALL (wsV RX3 66 RX10 yX10_billedOf wqX10_billedOf) := wg_V wa_1143 wa_1144 wa_1145 wa_14 wa_1146
theorem gX3_claimOf_X10_priceOf : GoodIn WALL (wsV RX3 94 RX10 yX10_priceOf wqX10_priceOf) := wg_V wa_1153 wa_1154 wa_1155 wa_14 wa_1156
theorem dX3_claimOf_0 : decode cX3_claimOf 0 = .ok (.aload_n 0, 1) := od_42  (by decide +kernel)
theorem dX3_claimOf_1 : decode cX3_claimOf 1 = .ok (.iload_n 1, 1) := od_27  (by decide +kernel)
theorem dX3_claimOf_2 : decode cX3_claimOf 2 = .ok (.iload_n 2, 1) := od_28  (by decide +kernel)
theorem dX3_claimOf_3 : decode cX3_claimOf 3 = .ok (.invokevirtual 156, 3) := od_182 (a := 0) (b := 156) (by decide +kernel) (by decide)
theorem dX3_claimOf_6 : decode cX3_claimOf 6 = .ok (.lstore_n 3, 1) := od_66  (by decide +kernel)
theorem dX3_claimOf_7 : decode cX3_claimOf 7 = .ok (.lload_n 3, 1) := od_33  (by decide +kernel)
theorem dX3_claimOf_8 : decode cX3_claimOf 8 = .ok (.ldc2_w 138, 3) := od_20 (a := 0) (b := 138) (by decide +kernel) (by decide)
theorem dX3_claimOf_11 : decode cX3_claimOf 11 = .ok (.lcmp, 1) := od_148  (by decide +kernel)
theorem dX3_claimOf_12 : decode cX3_claimOf 12 = .ok (.ifCond .ne 9, 3) := od_154 (a := 0) (b := 9) (by decide +kernel) (by decide +kernel)
theorem dX3_claimOf_15 : decode cX3_claimOf 15 = .ok (.ldc2_w 138, 3) := od_20 (a := 0) (b := 138) (by decide +kernel) (by decide)
theorem dX3_claimOf_18 : decode cX3_claimOf 18 = .ok (.goto 23, 3) := od_167 (a := 0) (b := 23) (by decide +kernel) (by decide +kernel)
theorem dX3_claimOf_21 : decode cX3_claimOf 21 = .ok (.aload_n 0, 1) := od_42  (by decide +kernel)
theorem dX3_claimOf_22 : decode cX3_claimOf 22 = .ok (.getfield 18, 3) := od_180 (a := 0) (b := 18) (by decide +kernel) (by decide)
theorem dX3_claimOf_25 : decode cX3_claimOf 25 = .ok (.iload_n 1, 1) := od_27  (by decide +kernel)
theorem dX3_claimOf_26 : decode cX3_claimOf 26 = .ok (.invokevirtual 66, 3) := od_182 (a := 0) (b := 66) (by decide +kernel) (by decide)
theorem dX3_claimOf_29 : decode cX3_claimOf 29 = .ok (.lload_n 3, 1) := od_33  (by decide +kernel)
theorem dX3_claimOf_30 : decode cX3_claimOf 30 = .ok (.lsub, 1) := od_101  (by decide +kernel)
theorem dX3_claimOf_31 : decode cX3_claimOf 31 = .ok (.aload_n 0, 1) := od_42  (by decide +kernel)
theorem dX3_claimOf_32 : decode cX3_claimOf 32 = .ok (.getfield 18, 3) := od_180 (a := 0) (b := 18) (by decide +kernel) (by decide)
theorem dX3_claimOf_35 : decode cX3_claimOf 35 = .ok (.iload_n 1, 1) := od_27  (by decide +kernel)
theorem dX3_claimOf_36 : decode cX3_claimOf 36 = .ok (.iload_n 2, 1) := od_28  (by decide +kernel)
theorem dX3_claimOf_37 : decode cX3_claimOf 37 = .ok (.invokevirtual 94, 3) := od_182 (a := 0) (b := 94) (by decide +kernel) (by decide)
theorem dX3_claimOf_40 : decode cX3_claimOf 40 = .ok (.lmul, 1) := od_105  (by decide +kernel)
theorem dX3_claimOf_41 : decode cX3_claimOf 41 = .ok (.lreturn, 1) := od_173  (by decide +kernel)
end
