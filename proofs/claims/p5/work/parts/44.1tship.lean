set_option maxHeartbeats 4000000 in
set_option maxRecDepth 100000 in
theorem t_X5_forgetLanding (l : Launch) (dC : Nat → ClassId) (dI : Nat → Nat → Nat) (sz : Nat) (Ω : Nat → (Nat → Nat) → va_E → Prop) (κ : Nat → ClassId) (τ ν : Nat → Nat) (ρ : Nat → Nat → Nat) (L : List Nat) (f : Nat → va_E) (hG : tp_G τ ν ρ L) (hT : tp_T Ω κ τ ν ρ f) (h0 : Nat) (ht_h0 : τ h0 = 6) : Met l yX5_forgetLanding wqX5_forgetLanding ({ frames := 3, cells := 0, slots := 0, locals := 800 }) (va_Pc [.ref h0] (pz_B dC dI (tp_K κ) (va_pl L f) sz)) (va_Qv (fun (f1 : Nat → va_E) => tp_T Ω κ τ ν ρ f1 ∧ tp_F τ [6, 20] f f1 ∧ True) (fun (f1 : Nat → va_E) (t : State) => pz_E dC dI (tp_K κ) (va_A (va_pl L f) sz) (va_pl L f1) t) (va_A (va_pl L f) sz)) 0 0 (va_A (va_pl L f) sz) := by
  refine Met.ofW (cc := cX5_forgetLanding) (maxL := 1) (ret := none) (by decide) rfl ?_
  intro p e s m args below meth c s₁ B hml hv
  obtain ⟨rfl, hsz, hP, hK, hD0, hN⟩ := hv
  have hx := B.exec
  have hb := B.bytes
  have hr := B.returns
  have hts := fun (w : Cond) (h : w ∈ WALL) => atoms_spec (ws := wqX5_forgetLanding) B.pre w (List.mem_cons_of_mem _ h)
  have hown : s.vm.findClass RX5 = some m.cls := findClass_of_methodNamed B.named
  have hlocks := B.notSynchronized
  subst hsz
  have hD := hD0.self (sz := s.heap.size)
  generalize hAe : va_A (va_pl L f) s.heap.size = A at hD ⊢
  have hA : ∀ q : Nat, s.heap.size ≤ q → A q := fun q h => by rw [← hAe]; exact Or.inr h
  have hS : va_S A s.heap s.heap [] := va_S.rf
  have hR : tp_F τ [6, 20] f f := tp_F.rf
  have hl := lv_entry ([.ref h0]) (n := 1) (Nat.le_of_ble_eq_true rfl)
  rw [lg_entry_eq]
  generalize (lg_sl ([.ref h0]) ++ List.replicate (1 - (lg_sl ([.ref h0])).length) Slot.unset).toArray = ls at hl ⊢
  have hl : lv_has ls 1 [(0, .ref h0)] := hl
  refine lv_aload_n hx hb dX5_forgetLanding_0 rfl (lv_at hl 0 rfl) ?_
  refine lv_iconst (v := 0) hx hb dX5_forgetLanding_1 (by decide) ?_
  refine tgk_6 hG ht_h0 (fun y1 y2 y2n y3 y3n y4 y4n y5 y5n y6 y6n y7 y7n => ?_)
  refine tpk_6 hT ht_h0 (fun o8_x1 o8_x2 o8_x3 o8_x4 o8_x5 o8_x6 o8_x10 o8_x11 o8_x12 o8_x14 hf_o8 ro8_0 ro8_1 ro8_2 => ?_)
  refine tpk_pos (tp_in hG ht_h0 (by decide)) hf_o8 (fun q9 eq9 => ?_)
  refine va_put (D := (dC, dI)) (ci := 5) (v := .int 0) (ty := .int) (C := RX5) (T := TX5) (N := 17) hx hb hts hfX5 tyX5 tyX5_ok nmX5 hown hK hP hD hS q9 eq9 rfl 12 (by decide) (hts (.fieldLink RX5 93 "ColdShips$Ship" "landTons" "I") wa_266) (fun _ h9 => h9) rfl (tyX5_ok 12 (by decide)) rfl rfl (Nat.le_of_ble_eq_true rfl) dX5_forgetLanding_2 (tp_k (.inr (5, [.ref (ρ h0 0), .int o8_x1, .int o8_x2, .int o8_x3, .int o8_x4, .int o8_x5, .int o8_x6, .ref (ρ h0 7), .ref (ρ h0 8), .ref (ρ h0 9), .int o8_x10, .int o8_x11, .int 0, .ref (ρ h0 13), .int o8_x14, .ref (ρ h0 15), .ref (ρ h0 16)])) hD (tp_in hG ht_h0 (by decide)) eq9 (fun f10 H locs hP hD hS g12 k11 => ?_))
  have hT := hT.up ht_h0 g12 k11 ⟨_, _, _, _, _, _, _, _, _, _, rfl, (by first | decide | omega | (have : (0 : Int32).toInt = 0 := rfl; omega)), (by first | decide | omega | (have : (0 : Int32).toInt = 0 := rfl; omega)), (by first | decide | omega | (have : (0 : Int32).toInt = 0 := rfl; omega))⟩
  have hR := hR.up ht_h0 (by decide) k11
  refine lv_aload_n hx hb dX5_forgetLanding_5 rfl (lv_at hl 0 rfl) ?_
  refine tpk_pos (tp_in hG ht_h0 (by decide)) g12 (fun q13 eq13 => ?_)
  refine va_get (D := (dC, dI)) (ci := 5) (v := .ref (ρ h0 13)) (C := RX5) (T := TX5) (N := 17) hx hb hts hfX5 hown hK hP q13 eq13 rfl 13 (by decide) (hts (.fieldLink RX5 29 "ColdShips$Ship" "landParts" "[I") wa_100) (fun _ h9 => h9) rfl dX5_forgetLanding_6 ?_
  refine lv_iconst (v := 0) hx hb dX5_forgetLanding_9 (by decide) ?_
  have hFc := tp_fr hD hS hA
  refine va_callv (va_runS (As := [.ref (ρ h0 13), .int 0]) (rest := []) ⟨hx, hb, hml, hown, hts⟩ (t_J7_fill_53178 l dC dI _ Ω κ τ ν ρ L f10 hG hT (ρ h0 13) (0) y5 (by first | omega | (have : (0 : Int32).toInt = 0 := rfl; omega))) (va_cwS 2 hts gX5_forgetLanding_J7_fill_53178 rfl rfl rfl pd_J7_fill_53178 ⟨Nat.le_of_ble_eq_true rfl, Nat.le_of_ble_eq_true rfl⟩) ⟨pz_blind, pz_pre hP hK hD hN⟩ rfl rfl hl.1 rfl (lv_room (Nat.le_of_ble_eq_true rfl)) dX5_forgetLanding_10 ⟨Nat.le_of_ble_eq_true rfl, Nat.le_of_ble_eq_true rfl⟩) hS (fun q _ h => hFc q h) hFc (fun f16 t H1 locs ht hvm hw15 hB hz1 hk1 hS => ?_)
  refine tn_3 hw15 (fun hT hF17 hw15p => ?_); clear hw15
  have hR := hR.then hF17 (by decide)
  have hP := hB.1; rw [ht] at hP; have hD := tp_ad f16 hD; clear hB hFc hz1 hk1; subst ht; generalize t.heap = H at hP hS ⊢
  exact W.vret hx hb hr (fun t ht hW => ⟨⟨f16, rfl, ⟨hT, hR, trivial⟩, by rw [ht]; exact hP, va_K.moved hW.alike hK, hD⟩, hS.F ht⟩) hS.2.2 dX5_forgetLanding_13
set_option maxHeartbeats 4000000 in
set_option maxRecDepth 100000 in
theorem t_X5_begin (l : Launch) (dC : Nat → ClassId) (dI : Nat → Nat → Nat) (sz : Nat) (Ω : Nat → (Nat → Nat) → va_E → Prop) (κ : Nat → ClassId) (τ ν : Nat → Nat) (ρ : Nat → Nat → Nat) (L : List Nat) (f : Nat → va_E) (hG : tp_G τ ν ρ L) (hT : tp_T Ω κ τ ν ρ f) (h0 : Nat) (a : Int32) (b : Int32) (a3 : Int32) (ht_h0 : τ h0 = 6) (hr_a : 0 ≤ a.toInt ∧ a.toInt ≤ 5) : Met l yX5_begin wqX5_begin ({ frames := 4, cells := 0, slots := 0, locals := 1200 }) (va_Pc [.ref h0, .int a, .int b, .int a3] (pz_B dC dI (tp_K κ) (va_pl L f) sz)) (va_Qv (fun (f1 : Nat → va_E) => tp_T Ω κ τ ν ρ f1 ∧ tp_F τ [6, 8, 20, 21] f f1 ∧ True) (fun (f1 : Nat → va_E) (t : State) => pz_E dC dI (tp_K κ) (va_A (va_pl L f) sz) (va_pl L f1) t) (va_A (va_pl L f) sz)) 0 0 (va_A (va_pl L f) sz) := by
  refine Met.ofW (cc := cX5_begin) (maxL := 4) (ret := none) (by decide) rfl ?_
  intro p e s m args below meth c s₁ B hml hv
  obtain ⟨rfl, hsz, hP, hK, hD0, hN⟩ := hv
  have hx := B.exec
  have hb := B.bytes
  have hr := B.returns
  have hts := fun (w : Cond) (h : w ∈ WALL) => atoms_spec (ws := wqX5_begin) B.pre w (List.mem_cons_of_mem _ h)
  have hown : s.vm.findClass RX5 = some m.cls := findClass_of_methodNamed B.named
  have hlocks := B.notSynchronized
  subst hsz
  have hD := hD0.self (sz := s.heap.size)
  generalize hAe : va_A (va_pl L f) s.heap.size = A at hD ⊢
  have hA : ∀ q : Nat, s.heap.size ≤ q → A q := fun q h => by rw [← hAe]; exact Or.inr h
  have hS : va_S A s.heap s.heap [] := va_S.rf
  have hR : tp_F τ [6, 8, 20, 21] f f := tp_F.rf
  have hl := lv_entry ([.ref h0, .int a, .int b, .int a3]) (n := 4) (Nat.le_of_ble_eq_true rfl)
  rw [lg_entry_eq]
  generalize (lg_sl ([.ref h0, .int a, .int b, .int a3]) ++ List.replicate (4 - (lg_sl ([.ref h0, .int a, .int b, .int a3])).length) Slot.unset).toArray = ls at hl ⊢
  have hl : lv_has ls 4 [(0, .ref h0), (1, .int a), (2, .int b), (3, .int a3)] := hl
  refine lv_aload_n hx hb dX5_begin_0 rfl (lv_at hl 0 rfl) ?_
  refine tgk_6 hG ht_h0 (fun y1 y2 y2n y3 y3n y4 y4n y5 y5n y6 y6n y7 y7n => ?_)
  refine tpk_6 hT ht_h0 (fun o8_x1 o8_x2 o8_x3 o8_x4 o8_x5 o8_x6 o8_x10 o8_x11 o8_x12 o8_x14 hf_o8 ro8_0 ro8_1 ro8_2 => ?_)
  refine tpk_pos (tp_in hG ht_h0 (by decide)) hf_o8 (fun q9 eq9 => ?_)
  refine va_get (D := (dC, dI)) (ci := 5) (v := .ref (ρ h0 0)) (C := RX5) (T := TX5) (N := 17) hx hb hts hfX5 hown hK hP q9 eq9 rfl 0 (by decide) (hts (.fieldLink RX5 12 "ColdShips$Ship" "tank" "LColdShips$Tank;") wa_96) (fun _ h9 => h9) rfl dX5_begin_1 ?_
  refine lv_iload_n hx hb dX5_begin_4 rfl (lv_at hl 2 rfl) ?_
  refine tgk_8 hG y1 (fun y10 y10n y11 y11n y12 y12n => ?_)
  refine tpk_8 hT y1 (fun o13_x0 o13_x1 o13_x2 o13_x3 hf_o13 ro13_0 => ?_)
  refine tpk_pos (tp_in hG y1 (by decide)) hf_o13 (fun q14 eq14 => ?_)
  have hFc := tp_fr hD hS hA
  refine va_callv (va_runV (As := [.int b]) (rest := []) ⟨hx, hb, hml, hown, hts⟩ (t_X7_begin l dC dI _ Ω κ τ ν ρ L f hG hT (ρ h0 0) b y1) (cwV 1 hts gX5_begin_X7_begin rfl rfl rfl ⟨rfl, pd_X7_begin⟩ ⟨Nat.le_of_ble_eq_true rfl, Nat.le_of_ble_eq_true rfl⟩) ⟨pz_blind, va_recv hK hP (ci := 7) (q0 := q14) rfl eq14, pz_pre hP hK hD hN⟩ rfl rfl hl.1 rfl (lv_room (Nat.le_of_ble_eq_true rfl)) dX5_begin_5 ⟨Nat.le_of_ble_eq_true rfl, Nat.le_of_ble_eq_true rfl⟩) hS (fun q _ h => hFc q h) hFc (fun f17 t H1 locs ht hvm hw16 hB hz1 hk1 hS => ?_)
  refine tn_3 hw16 (fun hT hF18 hw16p => ?_); clear hw16
  have hR := hR.then hF18 (by decide)
  have hP := hB.1; rw [ht] at hP; have hD := tp_ad f17 hD; clear hB hFc hz1 hk1; subst ht; generalize t.heap = H at hP hS ⊢
  refine lv_aload_n hx hb dX5_begin_8 rfl (lv_at hl 0 rfl) ?_
  refine lv_iload_n hx hb dX5_begin_9 rfl (lv_at hl 3 rfl) ?_
  have hf_19 : f17 h0 = .inr (5, [.ref (ρ h0 0), .int o8_x1, .int o8_x2, .int o8_x3, .int o8_x4, .int o8_x5, .int o8_x6, .ref (ρ h0 7), .ref (ρ h0 8), .ref (ρ h0 9), .int o8_x10, .int o8_x11, .int o8_x12, .ref (ρ h0 13), .int o8_x14, .ref (ρ h0 15), .ref (ρ h0 16)]) := (hF18 _ (by rw [ht_h0]; decide)).trans hf_o8
  refine tpk_pos (tp_in hG ht_h0 (by decide)) hf_19 (fun q20 eq20 => ?_)
  refine va_put (D := (dC, dI)) (ci := 5) (v := .int a3) (ty := .int) (C := RX5) (T := TX5) (N := 17) hx hb hts hfX5 tyX5 tyX5_ok nmX5 hown hK hP hD hS q20 eq20 rfl 1 (by decide) (hts (.fieldLink RX5 42 "ColdShips$Ship" "fuel" "I") wa_242) (fun _ h9 => h9) rfl (tyX5_ok 1 (by decide)) rfl rfl (Nat.le_of_ble_eq_true rfl) dX5_begin_10 (tp_k (.inr (5, [.ref (ρ h0 0), .int a3, .int o8_x2, .int o8_x3, .int o8_x4, .int o8_x5, .int o8_x6, .ref (ρ h0 7), .ref (ρ h0 8), .ref (ρ h0 9), .int o8_x10, .int o8_x11, .int o8_x12, .ref (ρ h0 13), .int o8_x14, .ref (ρ h0 15), .ref (ρ h0 16)])) hD (tp_in hG ht_h0 (by decide)) eq20 (fun f21 H locs hP hD hS g23 k22 => ?_))
  have hT := hT.up ht_h0 g23 k22 ⟨_, _, _, _, _, _, _, _, _, _, rfl, (by first | decide | omega | (omega)), (by first | decide | omega | (omega)), (by first | decide | omega | (omega))⟩
  have hR := hR.up ht_h0 (by decide) k22
  refine lv_aload_n hx hb dX5_begin_13 rfl (lv_at hl 0 rfl) ?_
  refine lv_iload_n hx hb dX5_begin_14 rfl (lv_at hl 1 rfl) ?_
  refine tpk_pos (tp_in hG ht_h0 (by decide)) g23 (fun q24 eq24 => ?_)
  refine va_put (D := (dC, dI)) (ci := 5) (v := .int a) (ty := .int) (C := RX5) (T := TX5) (N := 17) hx hb hts hfX5 tyX5 tyX5_ok nmX5 hown hK hP hD hS q24 eq24 rfl 2 (by decide) (hts (.fieldLink RX5 46 "ColdShips$Ship" "where" "I") wa_243) (fun _ h9 => h9) rfl (tyX5_ok 2 (by decide)) rfl rfl (Nat.le_of_ble_eq_true rfl) dX5_begin_15 (tp_k (.inr (5, [.ref (ρ h0 0), .int a3, .int a, .int o8_x3, .int o8_x4, .int o8_x5, .int o8_x6, .ref (ρ h0 7), .ref (ρ h0 8), .ref (ρ h0 9), .int o8_x10, .int o8_x11, .int o8_x12, .ref (ρ h0 13), .int o8_x14, .ref (ρ h0 15), .ref (ρ h0 16)])) hD (tp_in hG ht_h0 (by decide)) eq24 (fun f25 H locs hP hD hS g27 k26 => ?_))
  have hT := hT.up ht_h0 g27 k26 ⟨_, _, _, _, _, _, _, _, _, _, rfl, (by first | decide | omega | (omega)), (by first | decide | omega | (omega)), (by first | decide | omega | (omega))⟩
  have hR := hR.up ht_h0 (by decide) k26
  refine lv_aload_n hx hb dX5_begin_18 rfl (lv_at hl 0 rfl) ?_
  refine lv_iconst (v := 0) hx hb dX5_begin_19 (by decide) ?_
  refine tpk_pos (tp_in hG ht_h0 (by decide)) g27 (fun q28 eq28 => ?_)
  refine va_put (D := (dC, dI)) (ci := 5) (v := .int 0) (ty := .int) (C := RX5) (T := TX5) (N := 17) hx hb hts hfX5 tyX5 tyX5_ok nmX5 hown hK hP hD hS q28 eq28 rfl 3 (by decide) (hts (.fieldLink RX5 49 "ColdShips$Ship" "left" "I") wa_244) (fun _ h9 => h9) rfl (tyX5_ok 3 (by decide)) rfl rfl (Nat.le_of_ble_eq_true rfl) dX5_begin_20 (tp_k (.inr (5, [.ref (ρ h0 0), .int a3, .int a, .int 0, .int o8_x4, .int o8_x5, .int o8_x6, .ref (ρ h0 7), .ref (ρ h0 8), .ref (ρ h0 9), .int o8_x10, .int o8_x11, .int o8_x12, .ref (ρ h0 13), .int o8_x14, .ref (ρ h0 15), .ref (ρ h0 16)])) hD (tp_in hG ht_h0 (by decide)) eq28 (fun f29 H locs hP hD hS g31 k30 => ?_))
  have hT := hT.up ht_h0 g31 k30 ⟨_, _, _, _, _, _, _, _, _, _, rfl, (by first | decide | omega | (have : (0 : Int32).toInt = 0 := rfl; omega)), (by first | decide | omega | (have : (0 : Int32).toInt = 0 := rfl; omega)), (by first | decide | omega | (have : (0 : Int32).toInt = 0 := rfl; omega))⟩
  have hR := hR.up ht_h0 (by decide) k30
  refine lv_aload_n hx hb dX5_begin_23 rfl (lv_at hl 0 rfl) ?_
  refine lv_iconst (v := 0) hx hb dX5_begin_24 (by decide) ?_
  refine tpk_pos (tp_in hG ht_h0 (by decide)) g31 (fun q32 eq32 => ?_)
  refine va_put (D := (dC, dI)) (ci := 5) (v := .int 0) (ty := .int) (C := RX5) (T := TX5) (N := 17) hx hb hts hfX5 tyX5 tyX5_ok nmX5 hown hK hP hD hS q32 eq32 rfl 4 (by decide) (hts (.fieldLink RX5 52 "ColdShips$Ship" "half" "I") wa_245) (fun _ h9 => h9) rfl (tyX5_ok 4 (by decide)) rfl rfl (Nat.le_of_ble_eq_true rfl) dX5_begin_25 (tp_k (.inr (5, [.ref (ρ h0 0), .int a3, .int a, .int 0, .int 0, .int o8_x5, .int o8_x6, .ref (ρ h0 7), .ref (ρ h0 8), .ref (ρ h0 9), .int o8_x10, .int o8_x11, .int o8_x12, .ref (ρ h0 13), .int o8_x14, .ref (ρ h0 15), .ref (ρ h0 16)])) hD (tp_in hG ht_h0 (by decide)) eq32 (fun f33 H locs hP hD hS g35 k34 => ?_))
  have hT := hT.up ht_h0 g35 k34 ⟨_, _, _, _, _, _, _, _, _, _, rfl, (by first | decide | omega | (have : (0 : Int32).toInt = 0 := rfl; have : (0 : Int32).toInt = 0 := rfl; omega)), (by first | decide | omega | (have : (0 : Int32).toInt = 0 := rfl; have : (0 : Int32).toInt = 0 := rfl; omega)), (by first | decide | omega | (have : (0 : Int32).toInt = 0 := rfl; have : (0 : Int32).toInt = 0 := rfl; omega))⟩
  have hR := hR.up ht_h0 (by decide) k34
  refine lv_aload_n hx hb dX5_begin_28 rfl (lv_at hl 0 rfl) ?_
  refine lv_iconst (v := 0) hx hb dX5_begin_29 (by decide) ?_
  refine tpk_pos (tp_in hG ht_h0 (by decide)) g35 (fun q36 eq36 => ?_)
  refine va_put (D := (dC, dI)) (ci := 5) (v := .int 0) (ty := .boolean) (C := RX5) (T := TX5) (N := 17) hx hb hts hfX5 tyX5 tyX5_ok nmX5 hown hK hP hD hS q36 eq36 rfl 5 (by decide) (hts (.fieldLink RX5 55 "ColdShips$Ship" "drifting" "Z") wa_246) (fun _ h9 => h9) rfl (tyX5_ok 5 (by decide)) rfl rfl (Nat.le_of_ble_eq_true rfl) dX5_begin_30 (tp_k (.inr (5, [.ref (ρ h0 0), .int a3, .int a, .int 0, .int 0, .int 0, .int o8_x6, .ref (ρ h0 7), .ref (ρ h0 8), .ref (ρ h0 9), .int o8_x10, .int o8_x11, .int o8_x12, .ref (ρ h0 13), .int o8_x14, .ref (ρ h0 15), .ref (ρ h0 16)])) hD (tp_in hG ht_h0 (by decide)) eq36 (fun f37 H locs hP hD hS g39 k38 => ?_))
  have hT := hT.up ht_h0 g39 k38 ⟨_, _, _, _, _, _, _, _, _, _, rfl, (by first | decide | omega | (have : (0 : Int32).toInt = 0 := rfl; have : (0 : Int32).toInt = 0 := rfl; have : (0 : Int32).toInt = 0 := rfl; omega)), (by first | decide | omega | (have : (0 : Int32).toInt = 0 := rfl; have : (0 : Int32).toInt = 0 := rfl; have : (0 : Int32).toInt = 0 := rfl; omega)), (by first | decide | omega | (have : (0 : Int32).toInt = 0 := rfl; have : (0 : Int32).toInt = 0 := rfl; have : (0 : Int32).toInt = 0 := rfl; omega))⟩
  have hR := hR.up ht_h0 (by decide) k38
  refine lv_aload_n hx hb dX5_begin_33 rfl (lv_at hl 0 rfl) ?_
  refine lv_iconst (v := 0) hx hb dX5_begin_34 (by decide) ?_
  refine tpk_pos (tp_in hG ht_h0 (by decide)) g39 (fun q40 eq40 => ?_)
  refine va_put (D := (dC, dI)) (ci := 5) (v := .int 0) (ty := .int) (C := RX5) (T := TX5) (N := 17) hx hb hts hfX5 tyX5 tyX5_ok nmX5 hown hK hP hD hS q40 eq40 rfl 6 (by decide) (hts (.fieldLink RX5 59 "ColdShips$Ship" "orders" "I") wa_247) (fun _ h9 => h9) rfl (tyX5_ok 6 (by decide)) rfl rfl (Nat.le_of_ble_eq_true rfl) dX5_begin_35 (tp_k (.inr (5, [.ref (ρ h0 0), .int a3, .int a, .int 0, .int 0, .int 0, .int 0, .ref (ρ h0 7), .ref (ρ h0 8), .ref (ρ h0 9), .int o8_x10, .int o8_x11, .int o8_x12, .ref (ρ h0 13), .int o8_x14, .ref (ρ h0 15), .ref (ρ h0 16)])) hD (tp_in hG ht_h0 (by decide)) eq40 (fun f41 H locs hP hD hS g43 k42 => ?_))
  have hT := hT.up ht_h0 g43 k42 ⟨_, _, _, _, _, _, _, _, _, _, rfl, (by first | decide | omega | (have : (0 : Int32).toInt = 0 := rfl; have : (0 : Int32).toInt = 0 := rfl; have : (0 : Int32).toInt = 0 := rfl; have : (0 : Int32).toInt = 0 := rfl; omega)), (by first | decide | omega | (have : (0 : Int32).toInt = 0 := rfl; have : (0 : Int32).toInt = 0 := rfl; have : (0 : Int32).toInt = 0 := rfl; have : (0 : Int32).toInt = 0 := rfl; omega)), (by first | decide | omega | (have : (0 : Int32).toInt = 0 := rfl; have : (0 : Int32).toInt = 0 := rfl; have : (0 : Int32).toInt = 0 := rfl; have : (0 : Int32).toInt = 0 := rfl; omega))⟩
  have hR := hR.up ht_h0 (by decide) k42
  refine lv_aload_n hx hb dX5_begin_38 rfl (lv_at hl 0 rfl) ?_
  refine lv_iconst (v := 0) hx hb dX5_begin_39 (by decide) ?_
  refine tpk_pos (tp_in hG ht_h0 (by decide)) g43 (fun q44 eq44 => ?_)
  refine va_put (D := (dC, dI)) (ci := 5) (v := .int 0) (ty := .int) (C := RX5) (T := TX5) (N := 17) hx hb hts hfX5 tyX5 tyX5_ok nmX5 hown hK hP hD hS q44 eq44 rfl 14 (by decide) (hts (.fieldLink RX5 62 "ColdShips$Ship" "list" "I") wa_248) (fun _ h9 => h9) rfl (tyX5_ok 14 (by decide)) rfl rfl (Nat.le_of_ble_eq_true rfl) dX5_begin_40 (tp_k (.inr (5, [.ref (ρ h0 0), .int a3, .int a, .int 0, .int 0, .int 0, .int 0, .ref (ρ h0 7), .ref (ρ h0 8), .ref (ρ h0 9), .int o8_x10, .int o8_x11, .int o8_x12, .ref (ρ h0 13), .int 0, .ref (ρ h0 15), .ref (ρ h0 16)])) hD (tp_in hG ht_h0 (by decide)) eq44 (fun f45 H locs hP hD hS g47 k46 => ?_))
  have hT := hT.up ht_h0 g47 k46 ⟨_, _, _, _, _, _, _, _, _, _, rfl, (by first | decide | omega | (have : (0 : Int32).toInt = 0 := rfl; have : (0 : Int32).toInt = 0 := rfl; have : (0 : Int32).toInt = 0 := rfl; have : (0 : Int32).toInt = 0 := rfl; have : (0 : Int32).toInt = 0 := rfl; omega)), (by first | decide | omega | (have : (0 : Int32).toInt = 0 := rfl; have : (0 : Int32).toInt = 0 := rfl; have : (0 : Int32).toInt = 0 := rfl; have : (0 : Int32).toInt = 0 := rfl; have : (0 : Int32).toInt = 0 := rfl; omega)), (by first | decide | omega | (have : (0 : Int32).toInt = 0 := rfl; have : (0 : Int32).toInt = 0 := rfl; have : (0 : Int32).toInt = 0 := rfl; have : (0 : Int32).toInt = 0 := rfl; have : (0 : Int32).toInt = 0 := rfl; omega))⟩
  have hR := hR.up ht_h0 (by decide) k46
  refine lv_aload_n hx hb dX5_begin_43 rfl (lv_at hl 0 rfl) ?_
  refine tpk_pos (tp_in hG ht_h0 (by decide)) g47 (fun q48 eq48 => ?_)
  refine va_get (D := (dC, dI)) (ci := 5) (v := .ref (ρ h0 9)) (C := RX5) (T := TX5) (N := 17) hx hb hts hfX5 hown hK hP q48 eq48 rfl 9 (by decide) (hts (.fieldLink RX5 25 "ColdShips$Ship" "book" "[J") wa_99) (fun _ h9 => h9) rfl dX5_begin_44 ?_
  refine lv_lconst (v := 0) hx hb dX5_begin_47 (by decide) ?_
  have hFc := tp_fr hD hS hA
  refine va_callv (va_runS (As := [.ref (ρ h0 9), .long 0]) (rest := []) ⟨hx, hb, hml, hown, hts⟩ (t_J7_fill_d0a16 l dC dI _ Ω κ τ ν ρ L f45 hG hT (ρ h0 9) (0) y4 (by omega)) (va_cwS 2 hts gX5_begin_J7_fill_d0a16 rfl rfl rfl pd_J7_fill_d0a16 ⟨Nat.le_of_ble_eq_true rfl, Nat.le_of_ble_eq_true rfl⟩) ⟨pz_blind, pz_pre hP hK hD hN⟩ rfl rfl hl.1 rfl (lv_room (Nat.le_of_ble_eq_true rfl)) dX5_begin_48 ⟨Nat.le_of_ble_eq_true rfl, Nat.le_of_ble_eq_true rfl⟩) hS (fun q _ h => hFc q h) hFc (fun f51 t H1 locs ht hvm hw50 hB hz1 hk1 hS => ?_)
  refine tn_3 hw50 (fun hT hF52 hw50p => ?_); clear hw50
  have hR := hR.then hF52 (by decide)
  have hP := hB.1; rw [ht] at hP; have hD := tp_ad f51 hD; clear hB hFc hz1 hk1; subst ht; generalize t.heap = H at hP hS ⊢
  refine lv_aload_n hx hb dX5_begin_51 rfl (lv_at hl 0 rfl) ?_
  have hf_53 : f51 h0 = .inr (5, [.ref (ρ h0 0), .int a3, .int a, .int 0, .int 0, .int 0, .int 0, .ref (ρ h0 7), .ref (ρ h0 8), .ref (ρ h0 9), .int o8_x10, .int o8_x11, .int o8_x12, .ref (ρ h0 13), .int 0, .ref (ρ h0 15), .ref (ρ h0 16)]) := (hF52 _ (by rw [ht_h0]; decide)).trans g47
  refine tpk_pos (tp_in hG ht_h0 (by decide)) hf_53 (fun q54 eq54 => ?_)
  refine va_get (D := (dC, dI)) (ci := 5) (v := .ref (ρ h0 15)) (C := RX5) (T := TX5) (N := 17) hx hb hts hfX5 hown hK hP q54 eq54 rfl 15 (by decide) (hts (.fieldLink RX5 32 "ColdShips$Ship" "gaugeCentimetres" "[I") wa_101) (fun _ h9 => h9) rfl dX5_begin_52 ?_
  refine lv_iconst (v := (-1)) hx hb dX5_begin_55 (by decide) ?_
  have hFc := tp_fr hD hS hA
  refine va_callv (va_runS (As := [.ref (ρ h0 15), .int (-1)]) (rest := []) ⟨hx, hb, hml, hown, hts⟩ (t_J7_fill_53178 l dC dI _ Ω κ τ ν ρ L f51 hG hT (ρ h0 15) ((-1)) y6 (by first | omega | (have : ((-1) : Int32).toInt = (-1) := rfl; omega))) (va_cwS 2 hts gX5_begin_J7_fill_53178 rfl rfl rfl pd_J7_fill_53178 ⟨Nat.le_of_ble_eq_true rfl, Nat.le_of_ble_eq_true rfl⟩) ⟨pz_blind, pz_pre hP hK hD hN⟩ rfl rfl hl.1 rfl (lv_room (Nat.le_of_ble_eq_true rfl)) dX5_begin_56 ⟨Nat.le_of_ble_eq_true rfl, Nat.le_of_ble_eq_true rfl⟩) hS (fun q _ h => hFc q h) hFc (fun f57 t H1 locs ht hvm hw56 hB hz1 hk1 hS => ?_)
  refine tn_3 hw56 (fun hT hF58 hw56p => ?_); clear hw56
  have hR := hR.then hF58 (by decide)
  have hP := hB.1; rw [ht] at hP; have hD := tp_ad f57 hD; clear hB hFc hz1 hk1; subst ht; generalize t.heap = H at hP hS ⊢
  refine lv_aload_n hx hb dX5_begin_59 rfl (lv_at hl 0 rfl) ?_
  have hf_59 : f57 h0 = .inr (5, [.ref (ρ h0 0), .int a3, .int a, .int 0, .int 0, .int 0, .int 0, .ref (ρ h0 7), .ref (ρ h0 8), .ref (ρ h0 9), .int o8_x10, .int o8_x11, .int o8_x12, .ref (ρ h0 13), .int 0, .ref (ρ h0 15), .ref (ρ h0 16)]) := (hF58 _ (by rw [ht_h0]; decide)).trans hf_53
  refine tpk_pos (tp_in hG ht_h0 (by decide)) hf_59 (fun q60 eq60 => ?_)
  have hFc := tp_fr hD hS hA
  refine va_callv (va_runV (As := []) (rest := []) ⟨hx, hb, hml, hown, hts⟩ (t_X5_forgetLanding l dC dI _ Ω κ τ ν ρ L f57 hG hT h0 ht_h0) (cwV 0 hts gX5_begin_X5_forgetLanding rfl rfl rfl ⟨rfl, pd_X5_forgetLanding⟩ ⟨Nat.le_of_ble_eq_true rfl, Nat.le_of_ble_eq_true rfl⟩) ⟨pz_blind, va_recv hK hP (ci := 5) (q0 := q60) rfl eq60, pz_pre hP hK hD hN⟩ rfl rfl hl.1 rfl (lv_room (Nat.le_of_ble_eq_true rfl)) dX5_begin_60 ⟨Nat.le_of_ble_eq_true rfl, Nat.le_of_ble_eq_true rfl⟩) hS (fun q _ h => hFc q h) hFc (fun f63 t H1 locs ht hvm hw62 hB hz1 hk1 hS => ?_)
  refine tn_3 hw62 (fun hT hF64 hw62p => ?_); clear hw62
  have hR := hR.then hF64 (by decide)
  have hP := hB.1; rw [ht] at hP; have hD := tp_ad f63 hD; clear hB hFc hz1 hk1; subst ht; generalize t.heap = H at hP hS ⊢
  exact W.vret hx hb hr (fun t ht hW => ⟨⟨f63, rfl, ⟨hT, hR, trivial⟩, by rw [ht]; exact hP, va_K.moved hW.alike hK, hD⟩, hS.F ht⟩) hS.2.2 dX5_begin_63
set_option maxHeartbeats 4000000 in
set_option maxRecDepth 100000 in
theorem t_X5_addOrder (l : Launch) (dC : Nat → ClassId) (dI : Nat → Nat → Nat) (sz : Nat) (Ω : Nat → (Nat → Nat) → va_E → Prop) (κ : Nat → ClassId) (τ ν : Nat → Nat) (ρ : Nat → Nat → Nat) (L : List Nat) (f : Nat → va_E) (hG : tp_G τ ν ρ L) (hT : tp_T Ω κ τ ν ρ f) (h0 : Nat) (a : Int32) (b : Int32) (ht_h0 : τ h0 = 6) : Met l yX5_addOrder wqX5_addOrder ({ frames := 2, cells := 0, slots := 0, locals := 400 }) (va_Pc [.ref h0, .int a, .int b] (pz_B dC dI (tp_K κ) (va_pl L f) sz)) (va_Qv (fun (f1 : Nat → va_E) => tp_T Ω κ τ ν ρ f1 ∧ tp_F τ [6, 20] f f1 ∧ True) (fun (f1 : Nat → va_E) (t : State) => pz_E dC dI (tp_K κ) (va_A (va_pl L f) sz) (va_pl L f1) t) (va_A (va_pl L f) sz)) 0 0 (va_A (va_pl L f) sz) := by
  refine Met.ofW (cc := cX5_addOrder) (maxL := 3) (ret := none) (by decide) rfl ?_
  intro p e s m args below meth c s₁ B hml hv
  obtain ⟨rfl, hsz, hP, hK, hD0, hN⟩ := hv
  have hx := B.exec
  have hb := B.bytes
  have hr := B.returns
  have hts := fun (w : Cond) (h : w ∈ WALL) => atoms_spec (ws := wqX5_addOrder) B.pre w (List.mem_cons_of_mem _ h)
  have hown : s.vm.findClass RX5 = some m.cls := findClass_of_methodNamed B.named
  have hlocks := B.notSynchronized
  subst hsz
  have hD := hD0.self (sz := s.heap.size)
  generalize hAe : va_A (va_pl L f) s.heap.size = A at hD ⊢
  have hA : ∀ q : Nat, s.heap.size ≤ q → A q := fun q h => by rw [← hAe]; exact Or.inr h
  have hS : va_S A s.heap s.heap [] := va_S.rf
  have hR : tp_F τ [6, 20] f f := tp_F.rf
  have hl := lv_entry ([.ref h0, .int a, .int b]) (n := 3) (Nat.le_of_ble_eq_true rfl)
  rw [lg_entry_eq]
  generalize (lg_sl ([.ref h0, .int a, .int b]) ++ List.replicate (3 - (lg_sl ([.ref h0, .int a, .int b])).length) Slot.unset).toArray = ls at hl ⊢
  have hl : lv_has ls 3 [(0, .ref h0), (1, .int a), (2, .int b)] := hl
  refine lv_aload_n hx hb dX5_addOrder_0 rfl (lv_at hl 0 rfl) ?_
  refine tgk_6 hG ht_h0 (fun y1 y2 y2n y3 y3n y4 y4n y5 y5n y6 y6n y7 y7n => ?_)
  refine tpk_6 hT ht_h0 (fun o8_x1 o8_x2 o8_x3 o8_x4 o8_x5 o8_x6 o8_x10 o8_x11 o8_x12 o8_x14 hf_o8 ro8_0 ro8_1 ro8_2 => ?_)
  refine tpk_pos (tp_in hG ht_h0 (by decide)) hf_o8 (fun q9 eq9 => ?_)
  refine va_get (D := (dC, dI)) (ci := 5) (v := .int o8_x6) (C := RX5) (T := TX5) (N := 17) hx hb hts hfX5 hown hK hP q9 eq9 rfl 6 (by decide) (hts (.fieldLink RX5 59 "ColdShips$Ship" "orders" "I") wa_247) (fun _ h9 => h9) rfl dX5_addOrder_1 ?_
  refine lv_bipush (v := 20) hx hb dX5_addOrder_4 (by decide) ?_
  refine lv_icmp_ge (tgt := 39) hx hb dX5_addOrder_6 (by decide) (fun c10 => ?_) (fun c10 => ?_)
  · have ic10 : o8_x6.toInt ≥ 20 := zi_ge rfl rfl c10
    exact W.vret hx hb hr (fun t ht hW => ⟨⟨f, rfl, ⟨hT, hR, trivial⟩, by rw [ht]; exact hP, va_K.moved hW.alike hK, hD⟩, hS.F ht⟩) hS.2.2 dX5_addOrder_39
  · have ic10 : o8_x6.toInt < 20 := zi_gef rfl rfl c10
    refine lv_aload_n hx hb dX5_addOrder_9 rfl (lv_at hl 0 rfl) ?_
    refine va_get (D := (dC, dI)) (ci := 5) (v := .ref (ρ h0 7)) (C := RX5) (T := TX5) (N := 17) hx hb hts hfX5 hown hK hP q9 eq9 rfl 7 (by decide) (hts (.fieldLink RX5 18 "ColdShips$Ship" "orderSorts" "[I") wa_97) (fun _ h9 => h9) rfl dX5_addOrder_10 ?_
    refine lv_aload_n hx hb dX5_addOrder_13 rfl (lv_at hl 0 rfl) ?_
    refine va_get (D := (dC, dI)) (ci := 5) (v := .int o8_x6) (C := RX5) (T := TX5) (N := 17) hx hb hts hfX5 hown hK hP q9 eq9 rfl 6 (by decide) (hts (.fieldLink RX5 59 "ColdShips$Ship" "orders" "I") wa_247) (fun _ h9 => h9) rfl dX5_addOrder_14 ?_
    refine lv_iload_n hx hb dX5_addOrder_17 rfl (lv_at hl 1 rfl) ?_
    refine tpk_20 hT y2 y2n (fun g12 hf_o11 => ?_)
    refine tpk_pos (tp_in hG y2 (by decide)) hf_o11 (fun q13 eq13 => ?_)
    refine va_iast hx hb hK hP hD hS q13 0 eq13 rfl (vp_in_iff.mpr ⟨by omega, by omega⟩) dX5_addOrder_18 (tp_k (.inl (κ 0, 20, .inl (upd g12 o8_x6.toNatClampNeg a))) hD (tp_in hG y2 (by decide)) eq13 (fun f14 H locs hP hD hS g16 k15 => ?_))
    have hT := hT.up y2 g16 k15 (tp_o20 y2n)
    have hR := hR.up y2 (by decide) k15
    generalize (upd g12 o8_x6.toNatClampNeg a) = g17 at g16
    refine lv_aload_n hx hb dX5_addOrder_19 rfl (lv_at hl 0 rfl) ?_
    have hf_18 : f14 h0 = .inr (5, [.ref (ρ h0 0), .int o8_x1, .int o8_x2, .int o8_x3, .int o8_x4, .int o8_x5, .int o8_x6, .ref (ρ h0 7), .ref (ρ h0 8), .ref (ρ h0 9), .int o8_x10, .int o8_x11, .int o8_x12, .ref (ρ h0 13), .int o8_x14, .ref (ρ h0 15), .ref (ρ h0 16)]) := (k15 _ (tp_ne ht_h0 y2 (by decide))).trans hf_o8
    refine tpk_pos (tp_in hG ht_h0 (by decide)) hf_18 (fun q19 eq19 => ?_)
    refine va_get (D := (dC, dI)) (ci := 5) (v := .ref (ρ h0 8)) (C := RX5) (T := TX5) (N := 17) hx hb hts hfX5 hown hK hP q19 eq19 rfl 8 (by decide) (hts (.fieldLink RX5 22 "ColdShips$Ship" "orderWhats" "[I") wa_98) (fun _ h9 => h9) rfl dX5_addOrder_20 ?_
    refine lv_aload_n hx hb dX5_addOrder_23 rfl (lv_at hl 0 rfl) ?_
    refine va_get (D := (dC, dI)) (ci := 5) (v := .int o8_x6) (C := RX5) (T := TX5) (N := 17) hx hb hts hfX5 hown hK hP q19 eq19 rfl 6 (by decide) (hts (.fieldLink RX5 59 "ColdShips$Ship" "orders" "I") wa_247) (fun _ h9 => h9) rfl dX5_addOrder_24 ?_
    refine lv_iload_n hx hb dX5_addOrder_27 rfl (lv_at hl 2 rfl) ?_
    refine tpk_20 hT y3 y3n (fun g21 hf_o20 => ?_)
    refine tpk_pos (tp_in hG y3 (by decide)) hf_o20 (fun q22 eq22 => ?_)
    refine va_iast hx hb hK hP hD hS q22 0 eq22 rfl (vp_in_iff.mpr ⟨by omega, by omega⟩) dX5_addOrder_28 (tp_k (.inl (κ 0, 20, .inl (upd g21 o8_x6.toNatClampNeg b))) hD (tp_in hG y3 (by decide)) eq22 (fun f23 H locs hP hD hS g25 k24 => ?_))
    have hT := hT.up y3 g25 k24 (tp_o20 y3n)
    have hR := hR.up y3 (by decide) k24
    generalize (upd g21 o8_x6.toNatClampNeg b) = g26 at g25
    refine lv_aload_n hx hb dX5_addOrder_29 rfl (lv_at hl 0 rfl) ?_
    refine lv_dup hx hb dX5_addOrder_30 rfl ?_
    have hf_27 : f23 h0 = .inr (5, [.ref (ρ h0 0), .int o8_x1, .int o8_x2, .int o8_x3, .int o8_x4, .int o8_x5, .int o8_x6, .ref (ρ h0 7), .ref (ρ h0 8), .ref (ρ h0 9), .int o8_x10, .int o8_x11, .int o8_x12, .ref (ρ h0 13), .int o8_x14, .ref (ρ h0 15), .ref (ρ h0 16)]) := (k24 _ (tp_ne ht_h0 y3 (by decide))).trans hf_18
    refine tpk_pos (tp_in hG ht_h0 (by decide)) hf_27 (fun q28 eq28 => ?_)
    refine va_get (D := (dC, dI)) (ci := 5) (v := .int o8_x6) (C := RX5) (T := TX5) (N := 17) hx hb hts hfX5 hown hK hP q28 eq28 rfl 6 (by decide) (hts (.fieldLink RX5 59 "ColdShips$Ship" "orders" "I") wa_247) (fun _ h9 => h9) rfl dX5_addOrder_31 ?_
    refine lv_iconst (v := 1) hx hb dX5_addOrder_34 (by decide) ?_
    refine lv_iadd hx hb dX5_addOrder_35 ?_
    refine lv_topi (fun z29 ez29 => ?_)
    have iz29 : z29.toInt = o8_x6.toInt + 1 := zi_add ez29 rfl rfl (by omega) (by omega)
    refine va_put (D := (dC, dI)) (ci := 5) (v := .int z29) (ty := .int) (C := RX5) (T := TX5) (N := 17) hx hb hts hfX5 tyX5 tyX5_ok nmX5 hown hK hP hD hS q28 eq28 rfl 6 (by decide) (hts (.fieldLink RX5 59 "ColdShips$Ship" "orders" "I") wa_247) (fun _ h9 => h9) rfl (tyX5_ok 6 (by decide)) rfl rfl (Nat.le_of_ble_eq_true rfl) dX5_addOrder_36 (tp_k (.inr (5, [.ref (ρ h0 0), .int o8_x1, .int o8_x2, .int o8_x3, .int o8_x4, .int o8_x5, .int z29, .ref (ρ h0 7), .ref (ρ h0 8), .ref (ρ h0 9), .int o8_x10, .int o8_x11, .int o8_x12, .ref (ρ h0 13), .int o8_x14, .ref (ρ h0 15), .ref (ρ h0 16)])) hD (tp_in hG ht_h0 (by decide)) eq28 (fun f30 H locs hP hD hS g32 k31 => ?_))
    have hT := hT.up ht_h0 g32 k31 ⟨_, _, _, _, _, _, _, _, _, _, rfl, (by first | decide | omega | (omega)), (by first | decide | omega | (omega)), (by first | decide | omega | (omega))⟩
    have hR := hR.up ht_h0 (by decide) k31
    exact W.vret hx hb hr (fun t ht hW => ⟨⟨f30, rfl, ⟨hT, hR, trivial⟩, by rw [ht]; exact hP, va_K.moved hW.alike hK, hD⟩, hS.F ht⟩) hS.2.2 dX5_addOrder_39
set_option maxHeartbeats 4000000 in
set_option maxRecDepth 100000 in
theorem t_X5_endOrder (l : Launch) (dC : Nat → ClassId) (dI : Nat → Nat → Nat) (sz : Nat) (Ω : Nat → (Nat → Nat) → va_E → Prop) (κ : Nat → ClassId) (τ ν : Nat → Nat) (ρ : Nat → Nat → Nat) (L : List Nat) (f : Nat → va_E) (hG : tp_G τ ν ρ L) (hT : tp_T Ω κ τ ν ρ f) (h0 : Nat) (ht_h0 : τ h0 = 6) : Met l yX5_endOrder wqX5_endOrder ({ frames := 2, cells := 0, slots := 0, locals := 400 }) (va_Pc [.ref h0] (pz_B dC dI (tp_K κ) (va_pl L f) sz)) (va_Qv (fun (f1 : Nat → va_E) => tp_T Ω κ τ ν ρ f1 ∧ tp_F τ [6, 20] f f1 ∧ True) (fun (f1 : Nat → va_E) (t : State) => pz_E dC dI (tp_K κ) (va_A (va_pl L f) sz) (va_pl L f1) t) (va_A (va_pl L f) sz)) 0 0 (va_A (va_pl L f) sz) := by
  refine Met.ofW (cc := cX5_endOrder) (maxL := 1) (ret := none) (by decide) rfl ?_
  intro p e s m args below meth c s₁ B hml hv
  obtain ⟨rfl, hsz, hP, hK, hD0, hN⟩ := hv
  have hx := B.exec
  have hb := B.bytes
  have hr := B.returns
  have hts := fun (w : Cond) (h : w ∈ WALL) => atoms_spec (ws := wqX5_endOrder) B.pre w (List.mem_cons_of_mem _ h)
  have hown : s.vm.findClass RX5 = some m.cls := findClass_of_methodNamed B.named
  have hlocks := B.notSynchronized
  subst hsz
  have hD := hD0.self (sz := s.heap.size)
  generalize hAe : va_A (va_pl L f) s.heap.size = A at hD ⊢
  have hA : ∀ q : Nat, s.heap.size ≤ q → A q := fun q h => by rw [← hAe]; exact Or.inr h
  have hS : va_S A s.heap s.heap [] := va_S.rf
  have hR : tp_F τ [6, 20] f f := tp_F.rf
  have hl := lv_entry ([.ref h0]) (n := 1) (Nat.le_of_ble_eq_true rfl)
  rw [lg_entry_eq]
  generalize (lg_sl ([.ref h0]) ++ List.replicate (1 - (lg_sl ([.ref h0])).length) Slot.unset).toArray = ls at hl ⊢
  have hl : lv_has ls 1 [(0, .ref h0)] := hl
  refine lv_aload_n hx hb dX5_endOrder_0 rfl (lv_at hl 0 rfl) ?_
  refine tgk_6 hG ht_h0 (fun y1 y2 y2n y3 y3n y4 y4n y5 y5n y6 y6n y7 y7n => ?_)
  refine tpk_6 hT ht_h0 (fun o8_x1 o8_x2 o8_x3 o8_x4 o8_x5 o8_x6 o8_x10 o8_x11 o8_x12 o8_x14 hf_o8 ro8_0 ro8_1 ro8_2 => ?_)
  refine tpk_pos (tp_in hG ht_h0 (by decide)) hf_o8 (fun q9 eq9 => ?_)
  refine va_get (D := (dC, dI)) (ci := 5) (v := .int o8_x6) (C := RX5) (T := TX5) (N := 17) hx hb hts hfX5 hown hK hP q9 eq9 rfl 6 (by decide) (hts (.fieldLink RX5 59 "ColdShips$Ship" "orders" "I") wa_247) (fun _ h9 => h9) rfl dX5_endOrder_1 ?_
  refine lv_if_le (tgt := 51) hx hb dX5_endOrder_4 (by decide) (fun c10 => ?_) (fun c10 => ?_)
  · have ic10 : o8_x6.toInt ≤ 0 := zi_le rfl rfl c10
    exact W.vret hx hb hr (fun t ht hW => ⟨⟨f, rfl, ⟨hT, hR, trivial⟩, by rw [ht]; exact hP, va_K.moved hW.alike hK, hD⟩, hS.F ht⟩) hS.2.2 dX5_endOrder_51
  · have ic10 : o8_x6.toInt > 0 := zi_lef rfl rfl c10
    refine lv_aload_n hx hb dX5_endOrder_7 rfl (lv_at hl 0 rfl) ?_
    refine lv_dup hx hb dX5_endOrder_8 rfl ?_
    refine va_get (D := (dC, dI)) (ci := 5) (v := .int o8_x6) (C := RX5) (T := TX5) (N := 17) hx hb hts hfX5 hown hK hP q9 eq9 rfl 6 (by decide) (hts (.fieldLink RX5 59 "ColdShips$Ship" "orders" "I") wa_247) (fun _ h9 => h9) rfl dX5_endOrder_9 ?_
    refine lv_iconst (v := 1) hx hb dX5_endOrder_12 (by decide) ?_
    refine lv_isub hx hb dX5_endOrder_13 ?_
    refine lv_topi (fun z11 ez11 => ?_)
    have iz11 : z11.toInt = o8_x6.toInt - 1 := zi_sub ez11 rfl rfl (by omega) (by omega)
    refine va_put (D := (dC, dI)) (ci := 5) (v := .int z11) (ty := .int) (C := RX5) (T := TX5) (N := 17) hx hb hts hfX5 tyX5 tyX5_ok nmX5 hown hK hP hD hS q9 eq9 rfl 6 (by decide) (hts (.fieldLink RX5 59 "ColdShips$Ship" "orders" "I") wa_247) (fun _ h9 => h9) rfl (tyX5_ok 6 (by decide)) rfl rfl (Nat.le_of_ble_eq_true rfl) dX5_endOrder_14 (tp_k (.inr (5, [.ref (ρ h0 0), .int o8_x1, .int o8_x2, .int o8_x3, .int o8_x4, .int o8_x5, .int z11, .ref (ρ h0 7), .ref (ρ h0 8), .ref (ρ h0 9), .int o8_x10, .int o8_x11, .int o8_x12, .ref (ρ h0 13), .int o8_x14, .ref (ρ h0 15), .ref (ρ h0 16)])) hD (tp_in hG ht_h0 (by decide)) eq9 (fun f12 H locs hP hD hS g14 k13 => ?_))
    have hT := hT.up ht_h0 g14 k13 ⟨_, _, _, _, _, _, _, _, _, _, rfl, (by first | decide | omega | (omega)), (by first | decide | omega | (omega)), (by first | decide | omega | (omega))⟩
    have hR := hR.up ht_h0 (by decide) k13
    refine lv_aload_n hx hb dX5_endOrder_17 rfl (lv_at hl 0 rfl) ?_
    refine tpk_pos (tp_in hG ht_h0 (by decide)) g14 (fun q15 eq15 => ?_)
    refine va_get (D := (dC, dI)) (ci := 5) (v := .ref (ρ h0 7)) (C := RX5) (T := TX5) (N := 17) hx hb hts hfX5 hown hK hP q15 eq15 rfl 7 (by decide) (hts (.fieldLink RX5 18 "ColdShips$Ship" "orderSorts" "[I") wa_97) (fun _ h9 => h9) rfl dX5_endOrder_18 ?_
    refine lv_iconst (v := 1) hx hb dX5_endOrder_21 (by decide) ?_
    refine lv_aload_n hx hb dX5_endOrder_22 rfl (lv_at hl 0 rfl) ?_
    refine va_get (D := (dC, dI)) (ci := 5) (v := .ref (ρ h0 7)) (C := RX5) (T := TX5) (N := 17) hx hb hts hfX5 hown hK hP q15 eq15 rfl 7 (by decide) (hts (.fieldLink RX5 18 "ColdShips$Ship" "orderSorts" "[I") wa_97) (fun _ h9 => h9) rfl dX5_endOrder_23 ?_
    refine lv_iconst (v := 0) hx hb dX5_endOrder_26 (by decide) ?_
    refine lv_aload_n hx hb dX5_endOrder_27 rfl (lv_at hl 0 rfl) ?_
    refine va_get (D := (dC, dI)) (ci := 5) (v := .int z11) (C := RX5) (T := TX5) (N := 17) hx hb hts hfX5 hown hK hP q15 eq15 rfl 6 (by decide) (hts (.fieldLink RX5 59 "ColdShips$Ship" "orders" "I") wa_247) (fun _ h9 => h9) rfl dX5_endOrder_28 ?_
    refine tpk_20 hT y2 y2n (fun g17 hf_o16 => ?_)
    refine tpk_pos (tp_in hG y2 (by decide)) hf_o16 (fun q18 eq18 => ?_)
    refine va_copyi hx hb (by rw [hml]; exact hl.1.symm) hown (hts (.methodLink RX5 77 arraycopyName) wa_464) (hts (.native arraycopyName) wa_465) (hts (.static arraycopyName) wa_466) (hts (.initialized "java/lang/System") wa_467) hK hP hD hS q18 q18 0 0 eq18 eq18 rfl rfl rfl (by decide) (by decide) (zi_nn (by omega)) (zi_cp (show (1 : Int32).toInt = 1 from rfl) (rfl : z11.toInt = _) (by omega)) (zi_cp (show (0 : Int32).toInt = 0 from rfl) (rfl : z11.toInt = _) (by omega)) (fun _ _ => rfl) (Nat.le_of_ble_eq_true rfl) (Nat.le_of_ble_eq_true rfl) dX5_endOrder_31 (tp_k (.inl (κ 0, 20, .inl (va_cpy g17 g17 (1 : Int32).toNatClampNeg (0 : Int32).toNatClampNeg z11.toNatClampNeg))) hD (tp_in hG y2 (by decide)) eq18 (fun f19 H locs hP hD hS g21 k20 => ?_))
    have hT := hT.up y2 g21 k20 (tp_o20 y2n)
    have hR := hR.up y2 (by decide) k20
    generalize (va_cpy g17 g17 (1 : Int32).toNatClampNeg (0 : Int32).toNatClampNeg z11.toNatClampNeg) = g22 at g21
    refine lv_aload_n hx hb dX5_endOrder_34 rfl (lv_at hl 0 rfl) ?_
    have hf_23 : f19 h0 = .inr (5, [.ref (ρ h0 0), .int o8_x1, .int o8_x2, .int o8_x3, .int o8_x4, .int o8_x5, .int z11, .ref (ρ h0 7), .ref (ρ h0 8), .ref (ρ h0 9), .int o8_x10, .int o8_x11, .int o8_x12, .ref (ρ h0 13), .int o8_x14, .ref (ρ h0 15), .ref (ρ h0 16)]) := (k20 _ (tp_ne ht_h0 y2 (by decide))).trans g14
    refine tpk_pos (tp_in hG ht_h0 (by decide)) hf_23 (fun q24 eq24 => ?_)
    refine va_get (D := (dC, dI)) (ci := 5) (v := .ref (ρ h0 8)) (C := RX5) (T := TX5) (N := 17) hx hb hts hfX5 hown hK hP q24 eq24 rfl 8 (by decide) (hts (.fieldLink RX5 22 "ColdShips$Ship" "orderWhats" "[I") wa_98) (fun _ h9 => h9) rfl dX5_endOrder_35 ?_
    refine lv_iconst (v := 1) hx hb dX5_endOrder_38 (by decide) ?_
    refine lv_aload_n hx hb dX5_endOrder_39 rfl (lv_at hl 0 rfl) ?_
    refine va_get (D := (dC, dI)) (ci := 5) (v := .ref (ρ h0 8)) (C := RX5) (T := TX5) (N := 17) hx hb hts hfX5 hown hK hP q24 eq24 rfl 8 (by decide) (hts (.fieldLink RX5 22 "ColdShips$Ship" "orderWhats" "[I") wa_98) (fun _ h9 => h9) rfl dX5_endOrder_40 ?_
    refine lv_iconst (v := 0) hx hb dX5_endOrder_43 (by decide) ?_
    refine lv_aload_n hx hb dX5_endOrder_44 rfl (lv_at hl 0 rfl) ?_
    refine va_get (D := (dC, dI)) (ci := 5) (v := .int z11) (C := RX5) (T := TX5) (N := 17) hx hb hts hfX5 hown hK hP q24 eq24 rfl 6 (by decide) (hts (.fieldLink RX5 59 "ColdShips$Ship" "orders" "I") wa_247) (fun _ h9 => h9) rfl dX5_endOrder_45 ?_
    refine tpk_20 hT y3 y3n (fun g26 hf_o25 => ?_)
    refine tpk_pos (tp_in hG y3 (by decide)) hf_o25 (fun q27 eq27 => ?_)
    refine va_copyi hx hb (by rw [hml]; exact hl.1.symm) hown (hts (.methodLink RX5 77 arraycopyName) wa_464) (hts (.native arraycopyName) wa_465) (hts (.static arraycopyName) wa_466) (hts (.initialized "java/lang/System") wa_467) hK hP hD hS q27 q27 0 0 eq27 eq27 rfl rfl rfl (by decide) (by decide) (zi_nn (by omega)) (zi_cp (show (1 : Int32).toInt = 1 from rfl) (rfl : z11.toInt = _) (by omega)) (zi_cp (show (0 : Int32).toInt = 0 from rfl) (rfl : z11.toInt = _) (by omega)) (fun _ _ => rfl) (Nat.le_of_ble_eq_true rfl) (Nat.le_of_ble_eq_true rfl) dX5_endOrder_48 (tp_k (.inl (κ 0, 20, .inl (va_cpy g26 g26 (1 : Int32).toNatClampNeg (0 : Int32).toNatClampNeg z11.toNatClampNeg))) hD (tp_in hG y3 (by decide)) eq27 (fun f28 H locs hP hD hS g30 k29 => ?_))
    have hT := hT.up y3 g30 k29 (tp_o20 y3n)
    have hR := hR.up y3 (by decide) k29
    generalize (va_cpy g26 g26 (1 : Int32).toNatClampNeg (0 : Int32).toNatClampNeg z11.toNatClampNeg) = g31 at g30
    exact W.vret hx hb hr (fun t ht hW => ⟨⟨f28, rfl, ⟨hT, hR, trivial⟩, by rw [ht]; exact hP, va_K.moved hW.alike hK, hD⟩, hS.F ht⟩) hS.2.2 dX5_endOrder_51
set_option maxHeartbeats 4000000 in
set_option maxRecDepth 100000 in
theorem t_X5_tonsLeft (l : Launch) (dC : Nat → ClassId) (dI : Nat → Nat → Nat) (sz : Nat) (Ω : Nat → (Nat → Nat) → va_E → Prop) (κ : Nat → ClassId) (τ ν : Nat → Nat) (ρ : Nat → Nat → Nat) (L : List Nat) (f : Nat → va_E) (hG : tp_G τ ν ρ L) (hT : tp_T Ω κ τ ν ρ f) (h0 : Nat) (ht_h0 : τ h0 = 6) : Met l yX5_tonsLeft wqX5_tonsLeft ({ frames := 2, cells := 0, slots := 0, locals := 400 }) (va_Pc [.ref h0] (pz_B dC dI (tp_K κ) (va_pl L f) sz)) (vp_Si (fun r => True ∧ True)) 0 0 (fun _ => False) := by
  refine Met.ofW (cc := cX5_tonsLeft) (maxL := 2) (ret := some .int) (by decide) rfl ?_
  intro p e s m args below meth c s₁ B hml hv
  obtain ⟨rfl, hsz, hP, hK, hD0, hN⟩ := hv
  have hx := B.exec
  have hb := B.bytes
  have hr := B.returns
  have hts := fun (w : Cond) (h : w ∈ WALL) => atoms_spec (ws := wqX5_tonsLeft) B.pre w (List.mem_cons_of_mem _ h)
  have hown : s.vm.findClass RX5 = some m.cls := findClass_of_methodNamed B.named
  have hlocks := B.notSynchronized
  subst hsz
  have hD := hD0
  have hS : va_S (fun _ => True) s.heap s.heap [] := va_S.rf
  have hl := lv_entry ([.ref h0]) (n := 2) (Nat.le_of_ble_eq_true rfl)
  rw [lg_entry_eq]
  generalize (lg_sl ([.ref h0]) ++ List.replicate (2 - (lg_sl ([.ref h0])).length) Slot.unset).toArray = ls at hl ⊢
  have hl : lv_has ls 2 [(0, .ref h0)] := hl
  refine lv_aload_n hx hb dX5_tonsLeft_0 rfl (lv_at hl 0 rfl) ?_
  refine tgk_6 hG ht_h0 (fun y1 y2 y2n y3 y3n y4 y4n y5 y5n y6 y6n y7 y7n => ?_)
  refine tpk_6 hT ht_h0 (fun o8_x1 o8_x2 o8_x3 o8_x4 o8_x5 o8_x6 o8_x10 o8_x11 o8_x12 o8_x14 hf_o8 ro8_0 ro8_1 ro8_2 => ?_)
  refine tpk_pos (tp_in hG ht_h0 (by decide)) hf_o8 (fun q9 eq9 => ?_)
  refine va_get (D := (dC, dI)) (ci := 5) (v := .int o8_x6) (C := RX5) (T := TX5) (N := 17) hx hb hts hfX5 hown hK hP q9 eq9 rfl 6 (by decide) (hts (.fieldLink RX5 59 "ColdShips$Ship" "orders" "I") wa_247) (fun _ h9 => h9) rfl dX5_tonsLeft_1 ?_
  refine tp_join 32 (fun H locs ls stk => ∃ w10 : Int32, stk = [.int w10] ∧ (0 ≤ w10.toInt ∧ w10.toInt ≤ 1) ∧ H = s.heap ∧ locs = [] ∧ lv_has ls 2 [(0, .ref h0)]) ?_ (fun hj11 => ?_)
  · intro H locs ls stk hI
    refine Exists.elim hI (fun w10 hE90 => tn_5 hE90 (fun e90 rw10 e92 e93 hl => ?_))
    clear hE90 hI; subst e90; subst e92; subst e93
    refine lv_istore_n (lv' := [(1, .int w10), (0, .ref h0)]) hx hb dX5_tonsLeft_32 rfl hl (by decide) rfl (fun ls hl => ?_)
    refine lv_iload_n hx hb dX5_tonsLeft_33 rfl (lv_at hl 0 rfl) ?_
    refine lv_if_eq (tgt := 46) hx hb dX5_tonsLeft_34 (by decide) (fun c12 => ?_) (fun c12 => ?_)
    · have ic12 : w10.toInt = 0 := zi_eq rfl rfl c12
      refine lv_iconst (v := 0) hx hb dX5_tonsLeft_46 (by decide) ?_
      exact W.iret (v := 0) hx hb hr (fun t ht hW => ⟨0, rfl, ⟨trivial, trivial⟩, ht⟩) (fun _ h => by cases h) dX5_tonsLeft_47
    · have ic12 : w10.toInt ≠ 0 := zi_eqf rfl rfl c12
      refine lv_aload_n hx hb dX5_tonsLeft_37 rfl (lv_at hl 1 rfl) ?_
      refine va_get (D := (dC, dI)) (ci := 5) (v := .ref (ρ h0 8)) (C := RX5) (T := TX5) (N := 17) hx hb hts hfX5 hown hK hP q9 eq9 rfl 8 (by decide) (hts (.fieldLink RX5 22 "ColdShips$Ship" "orderWhats" "[I") wa_98) (fun _ h9 => h9) rfl dX5_tonsLeft_38 ?_
      refine lv_iconst (v := 0) hx hb dX5_tonsLeft_41 (by decide) ?_
      refine tpk_20 hT y3 y3n (fun g14 hf_o13 => ?_)
      refine tpk_pos (tp_in hG y3 (by decide)) hf_o13 (fun q15 eq15 => ?_)
      refine va_iald hx hb hK hP q15 0 eq15 rfl (vp_in_iff.mpr ⟨by decide, by decide⟩) dX5_tonsLeft_42 ?_
      refine lv_topi (fun z16 ez16 => ?_)
      refine lv_goto (tgt := 47) hx hb dX5_tonsLeft_43 (by decide) ?_
      exact W.iret (v := z16) hx hb hr (fun t ht hW => ⟨z16, rfl, ⟨trivial, trivial⟩, ht⟩) (fun _ h => by cases h) dX5_tonsLeft_47
  · refine lv_if_le (tgt := 31) hx hb dX5_tonsLeft_4 (by decide) (fun c17 => ?_) (fun c17 => ?_)
    · have ic17 : o8_x6.toInt ≤ 0 := zi_le rfl rfl c17
      refine lv_iconst (v := 0) hx hb dX5_tonsLeft_31 (by decide) ?_
      exact hj11 _ _ _ _ ⟨0, rfl, (by have : (0 : Int32).toInt = 0 := rfl; omega), rfl, rfl, lv_sub hl [0] rfl⟩
    · have ic17 : o8_x6.toInt > 0 := zi_lef rfl rfl c17
      refine lv_aload_n hx hb dX5_tonsLeft_7 rfl (lv_at hl 0 rfl) ?_
      refine va_get (D := (dC, dI)) (ci := 5) (v := .ref (ρ h0 7)) (C := RX5) (T := TX5) (N := 17) hx hb hts hfX5 hown hK hP q9 eq9 rfl 7 (by decide) (hts (.fieldLink RX5 18 "ColdShips$Ship" "orderSorts" "[I") wa_97) (fun _ h9 => h9) rfl dX5_tonsLeft_8 ?_
      refine lv_iconst (v := 0) hx hb dX5_tonsLeft_11 (by decide) ?_
      refine tpk_20 hT y2 y2n (fun g19 hf_o18 => ?_)
      refine tpk_pos (tp_in hG y2 (by decide)) hf_o18 (fun q20 eq20 => ?_)
      refine va_iald hx hb hK hP q20 0 eq20 rfl (vp_in_iff.mpr ⟨by decide, by decide⟩) dX5_tonsLeft_12 ?_
      refine lv_topi (fun z21 ez21 => ?_)
      refine lv_iconst (v := 1) hx hb dX5_tonsLeft_13 (by decide) ?_
      refine lv_icmp_eq (tgt := 27) hx hb dX5_tonsLeft_14 (by decide) (fun c22 => ?_) (fun c22 => ?_)
      · have ic22 : z21.toInt = 1 := zi_eq rfl rfl c22
        refine lv_iconst (v := 1) hx hb dX5_tonsLeft_27 (by decide) ?_
        refine lv_goto (tgt := 32) hx hb dX5_tonsLeft_28 (by decide) ?_
        exact hj11 _ _ _ _ ⟨1, rfl, (by have : (1 : Int32).toInt = 1 := rfl; omega), rfl, rfl, lv_sub hl [0] rfl⟩
      · have ic22 : z21.toInt ≠ 1 := zi_eqf rfl rfl c22
        refine lv_aload_n hx hb dX5_tonsLeft_17 rfl (lv_at hl 0 rfl) ?_
        refine va_get (D := (dC, dI)) (ci := 5) (v := .ref (ρ h0 7)) (C := RX5) (T := TX5) (N := 17) hx hb hts hfX5 hown hK hP q9 eq9 rfl 7 (by decide) (hts (.fieldLink RX5 18 "ColdShips$Ship" "orderSorts" "[I") wa_97) (fun _ h9 => h9) rfl dX5_tonsLeft_18 ?_
        refine lv_iconst (v := 0) hx hb dX5_tonsLeft_21 (by decide) ?_
        refine va_iald hx hb hK hP q20 0 eq20 rfl (vp_in_iff.mpr ⟨by decide, by decide⟩) dX5_tonsLeft_22 ?_
        refine lv_topi (fun z23 ez23 => ?_)
        refine lv_iconst (v := 2) hx hb dX5_tonsLeft_23 (by decide) ?_
        refine lv_icmp_ne (tgt := 31) hx hb dX5_tonsLeft_24 (by decide) (fun c24 => ?_) (fun c24 => ?_)
        · have ic24 : z23.toInt ≠ 2 := zi_ne rfl rfl c24
          refine lv_iconst (v := 0) hx hb dX5_tonsLeft_31 (by decide) ?_
          exact hj11 _ _ _ _ ⟨0, rfl, (by have : (0 : Int32).toInt = 0 := rfl; omega), rfl, rfl, lv_sub hl [0] rfl⟩
        · have ic24 : z23.toInt = 2 := zi_nef rfl rfl c24
          refine lv_iconst (v := 1) hx hb dX5_tonsLeft_27 (by decide) ?_
          refine lv_goto (tgt := 32) hx hb dX5_tonsLeft_28 (by decide) ?_
          exact hj11 _ _ _ _ ⟨1, rfl, (by have : (1 : Int32).toInt = 1 := rfl; omega), rfl, rfl, lv_sub hl [0] rfl⟩
set_option maxHeartbeats 4000000 in
set_option maxRecDepth 100000 in
theorem t_X5_burnFuel (l : Launch) (dC : Nat → ClassId) (dI : Nat → Nat → Nat) (sz : Nat) (Ω : Nat → (Nat → Nat) → va_E → Prop) (κ : Nat → ClassId) (τ ν : Nat → Nat) (ρ : Nat → Nat → Nat) (L : List Nat) (f : Nat → va_E) (hG : tp_G τ ν ρ L) (hT : tp_T Ω κ τ ν ρ f) (h0 : Nat) (a : Int32) (ht_h0 : τ h0 = 6) : Met l yX5_burnFuel wqX5_burnFuel ({ frames := 5, cells := 0, slots := 0, locals := 1600 }) (va_Pc [.ref h0, .int a] (pz_B dC dI (tp_K κ) (va_pl L f) sz)) (va_Qv (fun (f1 : Nat → va_E) => tp_T Ω κ τ ν ρ f1 ∧ tp_F τ [6, 8, 20, 21] f f1 ∧ True) (fun (f1 : Nat → va_E) (t : State) => pz_E dC dI (tp_K κ) (va_A (va_pl L f) sz) (va_pl L f1) t) (va_A (va_pl L f) sz)) 0 0 (va_A (va_pl L f) sz) := by
  refine Met.ofW (cc := cX5_burnFuel) (maxL := 3) (ret := none) (by decide) rfl ?_
  intro p e s m args below meth c s₁ B hml hv
  obtain ⟨rfl, hsz, hP, hK, hD0, hN⟩ := hv
  have hx := B.exec
  have hb := B.bytes
  have hr := B.returns
  have hts := fun (w : Cond) (h : w ∈ WALL) => atoms_spec (ws := wqX5_burnFuel) B.pre w (List.mem_cons_of_mem _ h)
  have hown : s.vm.findClass RX5 = some m.cls := findClass_of_methodNamed B.named
  have hlocks := B.notSynchronized
  subst hsz
  have hD := hD0.self (sz := s.heap.size)
  generalize hAe : va_A (va_pl L f) s.heap.size = A at hD ⊢
  have hA : ∀ q : Nat, s.heap.size ≤ q → A q := fun q h => by rw [← hAe]; exact Or.inr h
  have hS : va_S A s.heap s.heap [] := va_S.rf
  have hR : tp_F τ [6, 8, 20, 21] f f := tp_F.rf
  have hl := lv_entry ([.ref h0, .int a]) (n := 3) (Nat.le_of_ble_eq_true rfl)
  rw [lg_entry_eq]
  generalize (lg_sl ([.ref h0, .int a]) ++ List.replicate (3 - (lg_sl ([.ref h0, .int a])).length) Slot.unset).toArray = ls at hl ⊢
  have hl : lv_has ls 3 [(0, .ref h0), (1, .int a)] := hl
  refine lv_aload_n hx hb dX5_burnFuel_0 rfl (lv_at hl 0 rfl) ?_
  refine tgk_6 hG ht_h0 (fun y1 y2 y2n y3 y3n y4 y4n y5 y5n y6 y6n y7 y7n => ?_)
  refine tpk_6 hT ht_h0 (fun o8_x1 o8_x2 o8_x3 o8_x4 o8_x5 o8_x6 o8_x10 o8_x11 o8_x12 o8_x14 hf_o8 ro8_0 ro8_1 ro8_2 => ?_)
  refine tpk_pos (tp_in hG ht_h0 (by decide)) hf_o8 (fun q9 eq9 => ?_)
  refine va_get (D := (dC, dI)) (ci := 5) (v := .ref (ρ h0 0)) (C := RX5) (T := TX5) (N := 17) hx hb hts hfX5 hown hK hP q9 eq9 rfl 0 (by decide) (hts (.fieldLink RX5 12 "ColdShips$Ship" "tank" "LColdShips$Tank;") wa_96) (fun _ h9 => h9) rfl dX5_burnFuel_1 ?_
  refine lv_iload_n hx hb dX5_burnFuel_4 rfl (lv_at hl 1 rfl) ?_
  refine tgk_8 hG y1 (fun y10 y10n y11 y11n y12 y12n => ?_)
  refine tpk_8 hT y1 (fun o13_x0 o13_x1 o13_x2 o13_x3 hf_o13 ro13_0 => ?_)
  refine tpk_pos (tp_in hG y1 (by decide)) hf_o13 (fun q14 eq14 => ?_)
  have hFc := tp_fr hD hS hA
  refine va_calli (va_runV (As := [.int a]) (rest := []) ⟨hx, hb, hml, hown, hts⟩ (t_X7_burn l dC dI _ Ω κ τ ν ρ L f hG hT (ρ h0 0) a y1) (cwV 1 hts gX5_burnFuel_X7_burn rfl rfl rfl ⟨rfl, pd_X7_burn⟩ ⟨Nat.le_of_ble_eq_true rfl, Nat.le_of_ble_eq_true rfl⟩) ⟨pz_blind, va_recv hK hP (ci := 7) (q0 := q14) rfl eq14, pz_pre hP hK hD hN⟩ rfl rfl hl.1 rfl (lv_room (Nat.le_of_ble_eq_true rfl)) dX5_burnFuel_5 ⟨Nat.le_of_ble_eq_true rfl, Nat.le_of_ble_eq_true rfl⟩) hS (fun q _ h => hFc q h) hFc (fun r15 f17 t H1 locs ht hvm hw16 hB hz1 hk1 hS => ?_)
  refine tn_4 hw16 (fun hT hF18 hw16r hw16p => ?_); clear hw16
  have hR := hR.then hF18 (by decide)
  have hP := hB.1; rw [ht] at hP; have hD := tp_ad f17 hD; clear hB hFc hz1 hk1; subst ht; generalize t.heap = H at hP hS ⊢
  refine lv_istore_n (lv' := [(2, .int r15), (0, .ref h0), (1, .int a)]) hx hb dX5_burnFuel_8 rfl hl (by decide) rfl (fun ls hl => ?_)
  refine lv_aload_n hx hb dX5_burnFuel_9 rfl (lv_at hl 1 rfl) ?_
  refine lv_iload_n hx hb dX5_burnFuel_10 rfl (lv_at hl 0 rfl) ?_
  refine lv_iload_n hx hb dX5_burnFuel_11 rfl (lv_at hl 2 rfl) ?_
  refine tp_join 20 (fun H locs ls stk => ∃ w19 : Int32, stk = [.int w19, .ref h0] ∧ (0 ≤ w19.toInt ∧ w19.toInt ≤ 1) ∧ va_P (dC, dI) vwCl (va_pl L f17) H ∧ va_D A (va_pl L f17) ∧ va_S A s.heap H locs ∧ lv_has ls 3 [(2, .int r15), (0, .ref h0), (1, .int a)]) ?_ (fun hj20 => ?_)
  · intro H locs ls stk hI
    refine Exists.elim hI (fun w19 hE90 => tn_6 hE90 (fun e90 rw19 hP hD hS hl => ?_))
    clear hE90 hI; subst e90
    have hf_21 : f17 h0 = .inr (5, [.ref (ρ h0 0), .int o8_x1, .int o8_x2, .int o8_x3, .int o8_x4, .int o8_x5, .int o8_x6, .ref (ρ h0 7), .ref (ρ h0 8), .ref (ρ h0 9), .int o8_x10, .int o8_x11, .int o8_x12, .ref (ρ h0 13), .int o8_x14, .ref (ρ h0 15), .ref (ρ h0 16)]) := (hF18 _ (by rw [ht_h0]; decide)).trans hf_o8
    refine tpk_pos (tp_in hG ht_h0 (by decide)) hf_21 (fun q22 eq22 => ?_)
    refine va_put (D := (dC, dI)) (ci := 5) (v := .int w19) (ty := .boolean) (C := RX5) (T := TX5) (N := 17) hx hb hts hfX5 tyX5 tyX5_ok nmX5 hown hK hP hD hS q22 eq22 rfl 5 (by decide) (hts (.fieldLink RX5 55 "ColdShips$Ship" "drifting" "Z") wa_246) (fun _ h9 => h9) rfl (tyX5_ok 5 (by decide)) (zi_narZ (by omega) (by omega)) (zi_fitZ (by omega) (by omega)) (Nat.le_of_ble_eq_true rfl) dX5_burnFuel_20 (tp_k (.inr (5, [.ref (ρ h0 0), .int o8_x1, .int o8_x2, .int o8_x3, .int o8_x4, .int w19, .int o8_x6, .ref (ρ h0 7), .ref (ρ h0 8), .ref (ρ h0 9), .int o8_x10, .int o8_x11, .int o8_x12, .ref (ρ h0 13), .int o8_x14, .ref (ρ h0 15), .ref (ρ h0 16)])) hD (tp_in hG ht_h0 (by decide)) eq22 (fun f23 H locs hP hD hS g25 k24 => ?_))
    have hT := hT.up ht_h0 g25 k24 ⟨_, _, _, _, _, _, _, _, _, _, rfl, (by first | decide | omega | (omega)), (by first | decide | omega | (omega)), (by first | decide | omega | (omega))⟩
    have hR := hR.up ht_h0 (by decide) k24
    refine lv_aload_n hx hb dX5_burnFuel_23 rfl (lv_at hl 1 rfl) ?_
    refine tpk_pos (tp_in hG ht_h0 (by decide)) g25 (fun q26 eq26 => ?_)
    refine va_get (D := (dC, dI)) (ci := 5) (v := .ref (ρ h0 9)) (C := RX5) (T := TX5) (N := 17) hx hb hts hfX5 hown hK hP q26 eq26 rfl 9 (by decide) (hts (.fieldLink RX5 25 "ColdShips$Ship" "book" "[J") wa_99) (fun _ h9 => h9) rfl dX5_burnFuel_24 ?_
    refine lv_iconst (v := 1) hx hb dX5_burnFuel_27 (by decide) ?_
    refine lv_dup2_11 hx hb dX5_burnFuel_28 rfl rfl ?_
    refine tpk_21 hT y4 y4n (fun g28 hf_o27 => ?_)
    refine tpk_pos (tp_in hG y4 (by decide)) hf_o27 (fun q29 eq29 => ?_)
    refine va_lald hx hb hK hP q29 1 eq29 rfl (vp_in_iff.mpr ⟨by decide, by decide⟩) dX5_burnFuel_29 ?_
    refine lv_topl (fun z30 ez30 => ?_)
    refine lv_iload_n hx hb dX5_burnFuel_30 rfl (lv_at hl 0 rfl) ?_
    refine lv_i2l hx hb dX5_burnFuel_31 rfl ?_
    refine lv_ladd hx hb dX5_burnFuel_32 ?_
    refine lv_topl (fun z31 ez31 => ?_)
    refine va_last hx hb hK hP hD hS q29 1 eq29 rfl (vp_in_iff.mpr ⟨by decide, by decide⟩) dX5_burnFuel_33 (tp_k (.inl (κ 1, 4, .inr (.inl (vp_updL g28 (1 : Int32).toNatClampNeg z31)))) hD (tp_in hG y4 (by decide)) eq29 (fun f32 H locs hP hD hS g34 k33 => ?_))
    have hT := hT.up y4 g34 k33 (tp_o21 y4n)
    have hR := hR.up y4 (by decide) k33
    generalize (vp_updL g28 (1 : Int32).toNatClampNeg z31) = g35 at g34
    exact W.vret hx hb hr (fun t ht hW => ⟨⟨f32, rfl, ⟨hT, hR, trivial⟩, by rw [ht]; exact hP, va_K.moved hW.alike hK, hD⟩, hS.F ht⟩) hS.2.2 dX5_burnFuel_34
  · refine lv_icmp_ge (tgt := 19) hx hb dX5_burnFuel_12 (by decide) (fun c36 => ?_) (fun c36 => ?_)
    · have ic36 : r15.toInt ≥ a.toInt := zi_ge rfl rfl c36
      refine lv_iconst (v := 0) hx hb dX5_burnFuel_19 (by decide) ?_
      exact hj20 _ _ _ _ ⟨0, rfl, (by have : (0 : Int32).toInt = 0 := rfl; omega), hP, hD, hS, lv_sub hl [0, 1, 2] rfl⟩
    · have ic36 : r15.toInt < a.toInt := zi_gef rfl rfl c36
      refine lv_iconst (v := 1) hx hb dX5_burnFuel_15 (by decide) ?_
      refine lv_goto (tgt := 20) hx hb dX5_burnFuel_16 (by decide) ?_
      exact hj20 _ _ _ _ ⟨1, rfl, (by have : (1 : Int32).toInt = 1 := rfl; omega), hP, hD, hS, lv_sub hl [0, 1, 2] rfl⟩
set_option maxHeartbeats 4000000 in
set_option maxRecDepth 100000 in
theorem t_X5_putAshore (l : Launch) (dC : Nat → ClassId) (dI : Nat → Nat → Nat) (sz : Nat) (Ω : Nat → (Nat → Nat) → va_E → Prop) (κ : Nat → ClassId) (τ ν : Nat → Nat) (ρ : Nat → Nat → Nat) (L : List Nat) (f : Nat → va_E) (hG : tp_G τ ν ρ L) (hT : tp_T Ω κ τ ν ρ f) (h0 : Nat) (a : Int32) (b : Int32) (ht_h0 : τ h0 = 6) : Met l yX5_putAshore wqX5_putAshore ({ frames := 4, cells := 0, slots := 0, locals := 1200 }) (va_Pc [.ref h0, .int a, .int b] (pz_B dC dI (tp_K κ) (va_pl L f) sz)) (va_Qv (fun (f1 : Nat → va_E) => tp_T Ω κ τ ν ρ f1 ∧ tp_F τ [6, 8, 20, 21] f f1 ∧ True) (fun (f1 : Nat → va_E) (t : State) => pz_E dC dI (tp_K κ) (va_A (va_pl L f) sz) (va_pl L f1) t) (va_A (va_pl L f) sz)) 0 0 (va_A (va_pl L f) sz) := by
  refine Met.ofW (cc := cX5_putAshore) (maxL := 4) (ret := none) (by decide) rfl ?_
  intro p e s m args below meth c s₁ B hml hv
  obtain ⟨rfl, hsz, hP, hK, hD0, hN⟩ := hv
  have hx := B.exec
  have hb := B.bytes
  have hr := B.returns
  have hts := fun (w : Cond) (h : w ∈ WALL) => atoms_spec (ws := wqX5_putAshore) B.pre w (List.mem_cons_of_mem _ h)
  have hown : s.vm.findClass RX5 = some m.cls := findClass_of_methodNamed B.named
  have hlocks := B.notSynchronized
  subst hsz
  have hD := hD0.self (sz := s.heap.size)
  generalize hAe : va_A (va_pl L f) s.heap.size = A at hD ⊢
  have hA : ∀ q : Nat, s.heap.size ≤ q → A q := fun q h => by rw [← hAe]; exact Or.inr h
  have hS : va_S A s.heap s.heap [] := va_S.rf
  have hR : tp_F τ [6, 8, 20, 21] f f := tp_F.rf
  have hl := lv_entry ([.ref h0, .int a, .int b]) (n := 4) (Nat.le_of_ble_eq_true rfl)
  rw [lg_entry_eq]
  generalize (lg_sl ([.ref h0, .int a, .int b]) ++ List.replicate (4 - (lg_sl ([.ref h0, .int a, .int b])).length) Slot.unset).toArray = ls at hl ⊢
  have hl : lv_has ls 4 [(0, .ref h0), (1, .int a), (2, .int b)] := hl
  refine lv_aload_n hx hb dX5_putAshore_0 rfl (lv_at hl 0 rfl) ?_
  refine tgk_6 hG ht_h0 (fun y1 y2 y2n y3 y3n y4 y4n y5 y5n y6 y6n y7 y7n => ?_)
  refine tpk_6 hT ht_h0 (fun o8_x1 o8_x2 o8_x3 o8_x4 o8_x5 o8_x6 o8_x10 o8_x11 o8_x12 o8_x14 hf_o8 ro8_0 ro8_1 ro8_2 => ?_)
  refine tpk_pos (tp_in hG ht_h0 (by decide)) hf_o8 (fun q9 eq9 => ?_)
  refine va_get (D := (dC, dI)) (ci := 5) (v := .ref (ρ h0 0)) (C := RX5) (T := TX5) (N := 17) hx hb hts hfX5 hown hK hP q9 eq9 rfl 0 (by decide) (hts (.fieldLink RX5 12 "ColdShips$Ship" "tank" "LColdShips$Tank;") wa_96) (fun _ h9 => h9) rfl dX5_putAshore_1 ?_
  refine lv_iload_n hx hb dX5_putAshore_4 rfl (lv_at hl 1 rfl) ?_
  refine tgk_8 hG y1 (fun y10 y10n y11 y11n y12 y12n => ?_)
  refine tpk_8 hT y1 (fun o13_x0 o13_x1 o13_x2 o13_x3 hf_o13 ro13_0 => ?_)
  refine tpk_pos (tp_in hG y1 (by decide)) hf_o13 (fun q14 eq14 => ?_)
  have hFc := tp_fr hD hS hA
  refine va_callv (va_runV (As := [.int a]) (rest := []) ⟨hx, hb, hml, hown, hts⟩ (t_X7_takeGas l dC dI _ Ω κ τ ν ρ L f hG hT (ρ h0 0) a y1) (cwV 1 hts gX5_putAshore_X7_takeGas rfl rfl rfl ⟨rfl, pd_X7_takeGas⟩ ⟨Nat.le_of_ble_eq_true rfl, Nat.le_of_ble_eq_true rfl⟩) ⟨pz_blind, va_recv hK hP (ci := 7) (q0 := q14) rfl eq14, pz_pre hP hK hD hN⟩ rfl rfl hl.1 rfl (lv_room (Nat.le_of_ble_eq_true rfl)) dX5_putAshore_5 ⟨Nat.le_of_ble_eq_true rfl, Nat.le_of_ble_eq_true rfl⟩) hS (fun q _ h => hFc q h) hFc (fun f17 t H1 locs ht hvm hw16 hB hz1 hk1 hS => ?_)
  refine tn_3 hw16 (fun hT hF18 hw16p => ?_); clear hw16
  have hR := hR.then hF18 (by decide)
  have hP := hB.1; rw [ht] at hP; have hD := tp_ad f17 hD; clear hB hFc hz1 hk1; subst ht; generalize t.heap = H at hP hS ⊢
  refine lv_iconst (v := 0) hx hb dX5_putAshore_8 (by decide) ?_
  refine lv_istore_n (lv' := [(3, .int 0), (0, .ref h0), (1, .int a), (2, .int b)]) hx hb dX5_putAshore_9 rfl hl (by decide) rfl (fun ls hl => ?_)
  refine pz_loop (fun n0 H locs ls => ∃ f20 : Nat → va_E, ∃ w19 : Int32, n0 = (6 - (w19.toInt)).toNat ∧ tp_T Ω κ τ ν ρ f20 ∧ tp_F τ [6, 8, 20, 21] f f20 ∧ (0 ≤ w19.toInt ∧ w19.toInt ≤ 6) ∧ va_P (dC, dI) vwCl (va_pl L f20) H ∧ va_D A (va_pl L f20) ∧ va_S A s.heap H locs ∧ lv_has ls 4 [(3, .int w19), (0, .ref h0), (1, .int a), (2, .int b)]) ?_ _ _ _ _ ⟨f17, 0, rfl, hT, hR, (by have : (0 : Int32).toInt = 0 := rfl; omega), hP, hD, hS, lv_sub hl [0, 1, 2, 3] rfl⟩
  intro n0 H locs ls hI ih21
  refine Exists.elim hI (fun f20 hE90 => Exists.elim hE90 (fun w19 hE91 => tn_8 hE91 (fun hn22 hT hR rw19 hP hD hS hl => ?_)))
  clear hE91 hE90 hI
  refine lv_iload_n hx hb dX5_putAshore_10 rfl (lv_at hl 0 rfl) ?_
  refine lv_bipush (v := 6) hx hb dX5_putAshore_11 (by decide) ?_
  refine lv_icmp_ge (tgt := 40) hx hb dX5_putAshore_13 (by decide) (fun c23 => ?_) (fun c23 => ?_)
  · have ic23 : w19.toInt ≥ 6 := zi_ge rfl rfl c23
    refine lv_aload_n hx hb dX5_putAshore_40 rfl (lv_at hl 1 rfl) ?_
    refine tpk_6 hT ht_h0 (fun o24_x1 o24_x2 o24_x3 o24_x4 o24_x5 o24_x6 o24_x10 o24_x11 o24_x12 o24_x14 hf_o24 ro24_0 ro24_1 ro24_2 => ?_)
    refine tpk_pos (tp_in hG ht_h0 (by decide)) hf_o24 (fun q25 eq25 => ?_)
    refine va_get (D := (dC, dI)) (ci := 5) (v := .int o24_x12) (C := RX5) (T := TX5) (N := 17) hx hb hts hfX5 hown hK hP q25 eq25 rfl 12 (by decide) (hts (.fieldLink RX5 93 "ColdShips$Ship" "landTons" "I") wa_266) (fun _ h9 => h9) rfl dX5_putAshore_41 ?_
    refine tp_join 52 (fun H locs ls stk => ∃ f27 : Nat → va_E, stk = [] ∧ tp_T Ω κ τ ν ρ f27 ∧ tp_F τ [6, 8, 20, 21] f f27 ∧ va_P (dC, dI) vwCl (va_pl L f27) H ∧ va_D A (va_pl L f27) ∧ va_S A s.heap H locs ∧ lv_has ls 4 [(3, .int w19), (0, .ref h0), (1, .int a), (2, .int b)]) ?_ (fun hj26 => ?_)
    · intro H locs ls stk hI
      refine Exists.elim hI (fun f27 hE90 => tn_7 hE90 (fun e90 hT hR hP hD hS hl => ?_))
      clear hE90 hI; subst e90
      refine lv_aload_n hx hb dX5_putAshore_52 rfl (lv_at hl 1 rfl) ?_
      refine lv_iload_n hx hb dX5_putAshore_53 rfl (lv_at hl 3 rfl) ?_
      refine tpk_6 hT ht_h0 (fun o28_x1 o28_x2 o28_x3 o28_x4 o28_x5 o28_x6 o28_x10 o28_x11 o28_x12 o28_x14 hf_o28 ro28_0 ro28_1 ro28_2 => ?_)
      refine tpk_pos (tp_in hG ht_h0 (by decide)) hf_o28 (fun q29 eq29 => ?_)
      refine va_put (D := (dC, dI)) (ci := 5) (v := .int b) (ty := .int) (C := RX5) (T := TX5) (N := 17) hx hb hts hfX5 tyX5 tyX5_ok nmX5 hown hK hP hD hS q29 eq29 rfl 11 (by decide) (hts (.fieldLink RX5 99 "ColdShips$Ship" "landLast" "I") wa_506) (fun _ h9 => h9) rfl (tyX5_ok 11 (by decide)) rfl rfl (Nat.le_of_ble_eq_true rfl) dX5_putAshore_54 (tp_k (.inr (5, [.ref (ρ h0 0), .int o28_x1, .int o28_x2, .int o28_x3, .int o28_x4, .int o28_x5, .int o28_x6, .ref (ρ h0 7), .ref (ρ h0 8), .ref (ρ h0 9), .int o28_x10, .int b, .int o28_x12, .ref (ρ h0 13), .int o28_x14, .ref (ρ h0 15), .ref (ρ h0 16)])) hD (tp_in hG ht_h0 (by decide)) eq29 (fun f30 H locs hP hD hS g32 k31 => ?_))
      have hT := hT.up ht_h0 g32 k31 ⟨_, _, _, _, _, _, _, _, _, _, rfl, (by first | decide | omega | (omega)), (by first | decide | omega | (omega)), (by first | decide | omega | (omega))⟩
      have hR := hR.up ht_h0 (by decide) k31
      refine lv_aload_n hx hb dX5_putAshore_57 rfl (lv_at hl 1 rfl) ?_
      refine lv_dup hx hb dX5_putAshore_58 rfl ?_
      refine tpk_pos (tp_in hG ht_h0 (by decide)) g32 (fun q33 eq33 => ?_)
      refine va_get (D := (dC, dI)) (ci := 5) (v := .int o28_x12) (C := RX5) (T := TX5) (N := 17) hx hb hts hfX5 hown hK hP q33 eq33 rfl 12 (by decide) (hts (.fieldLink RX5 93 "ColdShips$Ship" "landTons" "I") wa_266) (fun _ h9 => h9) rfl dX5_putAshore_59 ?_
      refine lv_iload_n hx hb dX5_putAshore_62 rfl (lv_at hl 2 rfl) ?_
      refine lv_iadd hx hb dX5_putAshore_63 ?_
      refine lv_topi (fun z34 ez34 => ?_)
      refine va_put (D := (dC, dI)) (ci := 5) (v := .int z34) (ty := .int) (C := RX5) (T := TX5) (N := 17) hx hb hts hfX5 tyX5 tyX5_ok nmX5 hown hK hP hD hS q33 eq33 rfl 12 (by decide) (hts (.fieldLink RX5 93 "ColdShips$Ship" "landTons" "I") wa_266) (fun _ h9 => h9) rfl (tyX5_ok 12 (by decide)) rfl rfl (Nat.le_of_ble_eq_true rfl) dX5_putAshore_64 (tp_k (.inr (5, [.ref (ρ h0 0), .int o28_x1, .int o28_x2, .int o28_x3, .int o28_x4, .int o28_x5, .int o28_x6, .ref (ρ h0 7), .ref (ρ h0 8), .ref (ρ h0 9), .int o28_x10, .int b, .int z34, .ref (ρ h0 13), .int o28_x14, .ref (ρ h0 15), .ref (ρ h0 16)])) hD (tp_in hG ht_h0 (by decide)) eq33 (fun f35 H locs hP hD hS g37 k36 => ?_))
      have hT := hT.up ht_h0 g37 k36 ⟨_, _, _, _, _, _, _, _, _, _, rfl, (by first | decide | omega | (omega)), (by first | decide | omega | (omega)), (by first | decide | omega | (omega))⟩
      have hR := hR.up ht_h0 (by decide) k36
      refine lv_aload_n hx hb dX5_putAshore_67 rfl (lv_at hl 1 rfl) ?_
      refine tpk_pos (tp_in hG ht_h0 (by decide)) g37 (fun q38 eq38 => ?_)
      refine va_get (D := (dC, dI)) (ci := 5) (v := .ref (ρ h0 9)) (C := RX5) (T := TX5) (N := 17) hx hb hts hfX5 hown hK hP q38 eq38 rfl 9 (by decide) (hts (.fieldLink RX5 25 "ColdShips$Ship" "book" "[J") wa_99) (fun _ h9 => h9) rfl dX5_putAshore_68 ?_
      refine lv_iconst (v := 3) hx hb dX5_putAshore_71 (by decide) ?_
      refine lv_dup2_11 hx hb dX5_putAshore_72 rfl rfl ?_
      refine tpk_21 hT y4 y4n (fun g40 hf_o39 => ?_)
      refine tpk_pos (tp_in hG y4 (by decide)) hf_o39 (fun q41 eq41 => ?_)
      refine va_lald hx hb hK hP q41 1 eq41 rfl (vp_in_iff.mpr ⟨by decide, by decide⟩) dX5_putAshore_73 ?_
      refine lv_topl (fun z42 ez42 => ?_)
      refine lv_iload_n hx hb dX5_putAshore_74 rfl (lv_at hl 2 rfl) ?_
      refine lv_i2l hx hb dX5_putAshore_75 rfl ?_
      refine lv_ladd hx hb dX5_putAshore_76 ?_
      refine lv_topl (fun z43 ez43 => ?_)
      refine va_last hx hb hK hP hD hS q41 1 eq41 rfl (vp_in_iff.mpr ⟨by decide, by decide⟩) dX5_putAshore_77 (tp_k (.inl (κ 1, 4, .inr (.inl (vp_updL g40 (3 : Int32).toNatClampNeg z43)))) hD (tp_in hG y4 (by decide)) eq41 (fun f44 H locs hP hD hS g46 k45 => ?_))
      have hT := hT.up y4 g46 k45 (tp_o21 y4n)
      have hR := hR.up y4 (by decide) k45
      generalize (vp_updL g40 (3 : Int32).toNatClampNeg z43) = g47 at g46
      exact W.vret hx hb hr (fun t ht hW => ⟨⟨f44, rfl, ⟨hT, hR, trivial⟩, by rw [ht]; exact hP, va_K.moved hW.alike hK, hD⟩, hS.F ht⟩) hS.2.2 dX5_putAshore_78
    · refine lv_if_ne (tgt := 52) hx hb dX5_putAshore_44 (by decide) (fun c48 => ?_) (fun c48 => ?_)
      · have ic48 : o24_x12.toInt ≠ 0 := zi_ne rfl rfl c48
        exact hj26 _ _ _ _ ⟨f20, rfl, hT, hR, hP, hD, hS, lv_sub hl [0, 1, 2, 3] rfl⟩
      · have ic48 : o24_x12.toInt = 0 := zi_nef rfl rfl c48
        refine lv_aload_n hx hb dX5_putAshore_47 rfl (lv_at hl 1 rfl) ?_
        refine lv_iload_n hx hb dX5_putAshore_48 rfl (lv_at hl 3 rfl) ?_
        refine va_put (D := (dC, dI)) (ci := 5) (v := .int b) (ty := .int) (C := RX5) (T := TX5) (N := 17) hx hb hts hfX5 tyX5 tyX5_ok nmX5 hown hK hP hD hS q25 eq25 rfl 10 (by decide) (hts (.fieldLink RX5 96 "ColdShips$Ship" "landFirst" "I") wa_505) (fun _ h9 => h9) rfl (tyX5_ok 10 (by decide)) rfl rfl (Nat.le_of_ble_eq_true rfl) dX5_putAshore_49 (tp_k (.inr (5, [.ref (ρ h0 0), .int o24_x1, .int o24_x2, .int o24_x3, .int o24_x4, .int o24_x5, .int o24_x6, .ref (ρ h0 7), .ref (ρ h0 8), .ref (ρ h0 9), .int b, .int o24_x11, .int o24_x12, .ref (ρ h0 13), .int o24_x14, .ref (ρ h0 15), .ref (ρ h0 16)])) hD (tp_in hG ht_h0 (by decide)) eq25 (fun f49 H locs hP hD hS g51 k50 => ?_))
        have hT := hT.up ht_h0 g51 k50 ⟨_, _, _, _, _, _, _, _, _, _, rfl, (by first | decide | omega | (omega)), (by first | decide | omega | (omega)), (by first | decide | omega | (omega))⟩
        have hR := hR.up ht_h0 (by decide) k50
        exact hj26 _ _ _ _ ⟨f49, rfl, hT, hR, hP, hD, hS, lv_sub hl [0, 1, 2, 3] rfl⟩
  · have ic23 : w19.toInt < 6 := zi_gef rfl rfl c23
    refine lv_aload_n hx hb dX5_putAshore_16 rfl (lv_at hl 1 rfl) ?_
    refine tpk_6 hT ht_h0 (fun o52_x1 o52_x2 o52_x3 o52_x4 o52_x5 o52_x6 o52_x10 o52_x11 o52_x12 o52_x14 hf_o52 ro52_0 ro52_1 ro52_2 => ?_)
    refine tpk_pos (tp_in hG ht_h0 (by decide)) hf_o52 (fun q53 eq53 => ?_)
    refine va_get (D := (dC, dI)) (ci := 5) (v := .ref (ρ h0 13)) (C := RX5) (T := TX5) (N := 17) hx hb hts hfX5 hown hK hP q53 eq53 rfl 13 (by decide) (hts (.fieldLink RX5 29 "ColdShips$Ship" "landParts" "[I") wa_100) (fun _ h9 => h9) rfl dX5_putAshore_17 ?_
    refine lv_iload_n hx hb dX5_putAshore_20 rfl (lv_at hl 0 rfl) ?_
    refine lv_dup2_11 hx hb dX5_putAshore_21 rfl rfl ?_
    refine tpk_20 hT y5 y5n (fun g55 hf_o54 => ?_)
    refine tpk_pos (tp_in hG y5 (by decide)) hf_o54 (fun q56 eq56 => ?_)
    refine va_iald hx hb hK hP q56 0 eq56 rfl (vp_in_iff.mpr ⟨by omega, by omega⟩) dX5_putAshore_22 ?_
    refine lv_topi (fun z57 ez57 => ?_)
    refine lv_aload_n hx hb dX5_putAshore_23 rfl (lv_at hl 1 rfl) ?_
    refine va_get (D := (dC, dI)) (ci := 5) (v := .ref (ρ h0 0)) (C := RX5) (T := TX5) (N := 17) hx hb hts hfX5 hown hK hP q53 eq53 rfl 0 (by decide) (hts (.fieldLink RX5 12 "ColdShips$Ship" "tank" "LColdShips$Tank;") wa_96) (fun _ h9 => h9) rfl dX5_putAshore_24 ?_
    refine tpk_8 hT y1 (fun o58_x0 o58_x1 o58_x2 o58_x3 hf_o58 ro58_0 => ?_)
    refine tpk_pos (tp_in hG y1 (by decide)) hf_o58 (fun q59 eq59 => ?_)
    refine va_getN (D := (dC, dI)) (ci := 7) (v := .ref (ρ (ρ h0 0) 5)) (C := RX7) (T := TX7) (N := 7) hx hb hts hfX7 hown hK hP q59 eq59 rfl 5 (by decide) (va_Nw.use rfl (hN.1 (.fieldLinkNest RX5 90 "ColdShips$Tank" "given" "[I" "ColdShips") nzw_20)) (fun _ h9 => h9) rfl dX5_putAshore_27 ?_
    refine lv_iload_n hx hb dX5_putAshore_30 rfl (lv_at hl 0 rfl) ?_
    refine tpk_20 hT y11 y11n (fun g61 hf_o60 => ?_)
    refine tpk_pos (tp_in hG y11 (by decide)) hf_o60 (fun q62 eq62 => ?_)
    refine va_iald hx hb hK hP q62 0 eq62 rfl (vp_in_iff.mpr ⟨by omega, by omega⟩) dX5_putAshore_31 ?_
    refine lv_topi (fun z63 ez63 => ?_)
    refine lv_iadd hx hb dX5_putAshore_32 ?_
    refine lv_topi (fun z64 ez64 => ?_)
    refine va_iast hx hb hK hP hD hS q56 0 eq56 rfl (vp_in_iff.mpr ⟨by omega, by omega⟩) dX5_putAshore_33 (tp_k (.inl (κ 0, 6, .inl (upd g55 w19.toNatClampNeg z64))) hD (tp_in hG y5 (by decide)) eq56 (fun f65 H locs hP hD hS g67 k66 => ?_))
    have hT := hT.up y5 g67 k66 (tp_o20 y5n)
    have hR := hR.up y5 (by decide) k66
    generalize (upd g55 w19.toNatClampNeg z64) = g68 at g67
    obtain ⟨z69, ez69⟩ : ∃ y : Int32, y = w19 + 1 := ⟨_, rfl⟩
    refine lv_iinc (v := z69) (lv' := [(3, .int z69), (0, .ref h0), (1, .int a), (2, .int b)]) hx hb dX5_putAshore_34 hl (k := 0) rfl (by rw [ez69]; rfl) (by decide) rfl (fun ls hl => ?_)
    have iz69 : z69.toInt = w19.toInt + 1 := zi_add ez69 rfl rfl (by omega) (by omega)
    refine lv_goto (tgt := 10) hx hb dX5_putAshore_37 (by decide) ?_
    exact ih21 _ _ _ _ (by rw [hn22]; omega) ⟨f65, z69, rfl, hT, hR, (by omega), hP, hD, hS, lv_sub hl [0, 1, 2, 3] rfl⟩
set_option maxHeartbeats 4000000 in
set_option maxRecDepth 100000 in
theorem t_X5_gaugeCounts (l : Launch) (dC : Nat → ClassId) (dI : Nat → Nat → Nat) (sz : Nat) (Ω : Nat → (Nat → Nat) → va_E → Prop) (κ : Nat → ClassId) (τ ν : Nat → Nat) (ρ : Nat → Nat → Nat) (L : List Nat) (f : Nat → va_E) (hG : tp_G τ ν ρ L) (hT : tp_T Ω κ τ ν ρ f) (h0 : Nat) (ht_h0 : τ h0 = 6) : Met l yX5_gaugeCounts wqX5_gaugeCounts ({ frames := 2, cells := 0, slots := 0, locals := 400 }) (va_Pc [.ref h0] (pz_B dC dI (tp_K κ) (va_pl L f) sz)) (vp_Si (fun r => (0 ≤ r.toInt ∧ r.toInt ≤ 1) ∧ True)) 0 0 (fun _ => False) := by
  refine Met.ofW (cc := cX5_gaugeCounts) (maxL := 2) (ret := some .boolean) (by decide) rfl ?_
  intro p e s m args below meth c s₁ B hml hv
  obtain ⟨rfl, hsz, hP, hK, hD0, hN⟩ := hv
  have hx := B.exec
  have hb := B.bytes
  have hr := B.returns
  have hts := fun (w : Cond) (h : w ∈ WALL) => atoms_spec (ws := wqX5_gaugeCounts) B.pre w (List.mem_cons_of_mem _ h)
  have hown : s.vm.findClass RX5 = some m.cls := findClass_of_methodNamed B.named
  have hlocks := B.notSynchronized
  subst hsz
  have hD := hD0
  have hS : va_S (fun _ => True) s.heap s.heap [] := va_S.rf
  have hl := lv_entry ([.ref h0]) (n := 2) (Nat.le_of_ble_eq_true rfl)
  rw [lg_entry_eq]
  generalize (lg_sl ([.ref h0]) ++ List.replicate (2 - (lg_sl ([.ref h0])).length) Slot.unset).toArray = ls at hl ⊢
  have hl : lv_has ls 2 [(0, .ref h0)] := hl
  refine lv_iconst (v := 0) hx hb dX5_gaugeCounts_0 (by decide) ?_
  refine lv_istore_n (lv' := [(1, .int 0), (0, .ref h0)]) hx hb dX5_gaugeCounts_1 rfl hl (by decide) rfl (fun ls hl => ?_)
  refine pz_loop (fun n0 H locs ls => ∃ w1 : Int32, n0 = (4 - (w1.toInt)).toNat ∧ (0 ≤ w1.toInt ∧ w1.toInt ≤ 4) ∧ H = s.heap ∧ locs = [] ∧ lv_has ls 2 [(1, .int w1), (0, .ref h0)]) ?_ _ _ _ _ ⟨0, rfl, (by have : (0 : Int32).toInt = 0 := rfl; omega), rfl, rfl, lv_sub hl [0, 1] rfl⟩
  intro n0 H locs ls hI ih2
  refine Exists.elim hI (fun w1 hE90 => tn_5 hE90 (fun hn3 rw1 e92 e93 hl => ?_))
  clear hE90 hI; subst e92; subst e93
  refine lv_iload_n hx hb dX5_gaugeCounts_2 rfl (lv_at hl 0 rfl) ?_
  refine lv_iconst (v := 4) hx hb dX5_gaugeCounts_3 (by decide) ?_
  refine lv_icmp_ge (tgt := 65) hx hb dX5_gaugeCounts_4 (by decide) (fun c4 => ?_) (fun c4 => ?_)
  · have ic4 : w1.toInt ≥ 4 := zi_ge rfl rfl c4
    refine lv_iconst (v := 1) hx hb dX5_gaugeCounts_65 (by decide) ?_
    exact W.zret (v := 1) hx hb hr rfl (fun t ht hW => ⟨1, rfl, ⟨(by first | decide | omega), trivial⟩, ht⟩) (fun _ h => by cases h) dX5_gaugeCounts_66
  · have ic4 : w1.toInt < 4 := zi_gef rfl rfl c4
    refine lv_aload_n hx hb dX5_gaugeCounts_7 rfl (lv_at hl 1 rfl) ?_
    refine tgk_6 hG ht_h0 (fun y5 y6 y6n y7 y7n y8 y8n y9 y9n y10 y10n y11 y11n => ?_)
    refine tpk_6 hT ht_h0 (fun o12_x1 o12_x2 o12_x3 o12_x4 o12_x5 o12_x6 o12_x10 o12_x11 o12_x12 o12_x14 hf_o12 ro12_0 ro12_1 ro12_2 => ?_)
    refine tpk_pos (tp_in hG ht_h0 (by decide)) hf_o12 (fun q13 eq13 => ?_)
    refine va_get (D := (dC, dI)) (ci := 5) (v := .ref (ρ h0 15)) (C := RX5) (T := TX5) (N := 17) hx hb hts hfX5 hown hK hP q13 eq13 rfl 15 (by decide) (hts (.fieldLink RX5 32 "ColdShips$Ship" "gaugeCentimetres" "[I") wa_101) (fun _ h9 => h9) rfl dX5_gaugeCounts_8 ?_
    refine lv_iload_n hx hb dX5_gaugeCounts_11 rfl (lv_at hl 0 rfl) ?_
    refine tpk_20 hT y10 y10n (fun g15 hf_o14 => ?_)
    refine tpk_pos (tp_in hG y10 (by decide)) hf_o14 (fun q16 eq16 => ?_)
    refine va_iald hx hb hK hP q16 0 eq16 rfl (vp_in_iff.mpr ⟨by omega, by omega⟩) dX5_gaugeCounts_12 ?_
    refine lv_topi (fun z17 ez17 => ?_)
    refine lv_iconst (v := (-1)) hx hb dX5_gaugeCounts_13 (by decide) ?_
    refine lv_icmp_ne (tgt := 19) hx hb dX5_gaugeCounts_14 (by decide) (fun c18 => ?_) (fun c18 => ?_)
    · have ic18 : z17.toInt ≠ (-1) := zi_ne rfl rfl c18
      refine lv_iload_n hx hb dX5_gaugeCounts_19 rfl (lv_at hl 0 rfl) ?_
      refine lv_if_le (tgt := 59) hx hb dX5_gaugeCounts_20 (by decide) (fun c19 => ?_) (fun c19 => ?_)
      · have ic19 : w1.toInt ≤ 0 := zi_le rfl rfl c19
        obtain ⟨z20, ez20⟩ : ∃ y : Int32, y = w1 + 1 := ⟨_, rfl⟩
        refine lv_iinc (v := z20) (lv' := [(1, .int z20), (0, .ref h0)]) hx hb dX5_gaugeCounts_59 hl (k := 0) rfl (by rw [ez20]; rfl) (by decide) rfl (fun ls hl => ?_)
        have iz20 : z20.toInt = w1.toInt + 1 := zi_add ez20 rfl rfl (by omega) (by omega)
        refine lv_goto (tgt := 2) hx hb dX5_gaugeCounts_62 (by decide) ?_
        exact ih2 _ _ _ _ (by rw [hn3]; omega) ⟨z20, rfl, (by omega), rfl, rfl, lv_sub hl [0, 1] rfl⟩
      · have ic19 : w1.toInt > 0 := zi_lef rfl rfl c19
        refine lv_aload_n hx hb dX5_gaugeCounts_23 rfl (lv_at hl 1 rfl) ?_
        refine va_get (D := (dC, dI)) (ci := 5) (v := .ref (ρ h0 15)) (C := RX5) (T := TX5) (N := 17) hx hb hts hfX5 hown hK hP q13 eq13 rfl 15 (by decide) (hts (.fieldLink RX5 32 "ColdShips$Ship" "gaugeCentimetres" "[I") wa_101) (fun _ h9 => h9) rfl dX5_gaugeCounts_24 ?_
        refine lv_iload_n hx hb dX5_gaugeCounts_27 rfl (lv_at hl 0 rfl) ?_
        refine va_iald hx hb hK hP q16 0 eq16 rfl (vp_in_iff.mpr ⟨by omega, by omega⟩) dX5_gaugeCounts_28 ?_
        refine lv_topi (fun z21 ez21 => ?_)
        refine lv_aload_n hx hb dX5_gaugeCounts_29 rfl (lv_at hl 1 rfl) ?_
        refine va_get (D := (dC, dI)) (ci := 5) (v := .ref (ρ h0 15)) (C := RX5) (T := TX5) (N := 17) hx hb hts hfX5 hown hK hP q13 eq13 rfl 15 (by decide) (hts (.fieldLink RX5 32 "ColdShips$Ship" "gaugeCentimetres" "[I") wa_101) (fun _ h9 => h9) rfl dX5_gaugeCounts_30 ?_
        refine lv_iload_n hx hb dX5_gaugeCounts_33 rfl (lv_at hl 0 rfl) ?_
        refine lv_iconst (v := 1) hx hb dX5_gaugeCounts_34 (by decide) ?_
        refine lv_isub hx hb dX5_gaugeCounts_35 ?_
        refine lv_topi (fun z22 ez22 => ?_)
        have iz22 : z22.toInt = w1.toInt - 1 := zi_sub ez22 rfl rfl (by omega) (by omega)
        refine va_iald hx hb hK hP q16 0 eq16 rfl (vp_in_iff.mpr ⟨by omega, by omega⟩) dX5_gaugeCounts_36 ?_
        refine lv_topi (fun z23 ez23 => ?_)
        refine lv_icmp_le (tgt := 57) hx hb dX5_gaugeCounts_37 (by decide) (fun c24 => ?_) (fun c24 => ?_)
        · have ic24 : z21.toInt ≤ z23.toInt := zi_le rfl rfl c24
          refine lv_iconst (v := 0) hx hb dX5_gaugeCounts_57 (by decide) ?_
          exact W.zret (v := 0) hx hb hr rfl (fun t ht hW => ⟨0, rfl, ⟨(by first | decide | omega), trivial⟩, ht⟩) (fun _ h => by cases h) dX5_gaugeCounts_58
        · have ic24 : z21.toInt > z23.toInt := zi_lef rfl rfl c24
          refine lv_aload_n hx hb dX5_gaugeCounts_40 rfl (lv_at hl 1 rfl) ?_
          refine va_get (D := (dC, dI)) (ci := 5) (v := .ref (ρ h0 16)) (C := RX5) (T := TX5) (N := 17) hx hb hts hfX5 hown hK hP q13 eq13 rfl 16 (by decide) (hts (.fieldLink RX5 35 "ColdShips$Ship" "gaugeTons" "[I") wa_102) (fun _ h9 => h9) rfl dX5_gaugeCounts_41 ?_
          refine lv_iload_n hx hb dX5_gaugeCounts_44 rfl (lv_at hl 0 rfl) ?_
          refine tpk_20 hT y11 y11n (fun g26 hf_o25 => ?_)
          refine tpk_pos (tp_in hG y11 (by decide)) hf_o25 (fun q27 eq27 => ?_)
          refine va_iald hx hb hK hP q27 0 eq27 rfl (vp_in_iff.mpr ⟨by omega, by omega⟩) dX5_gaugeCounts_45 ?_
          refine lv_topi (fun z28 ez28 => ?_)
          refine lv_aload_n hx hb dX5_gaugeCounts_46 rfl (lv_at hl 1 rfl) ?_
          refine va_get (D := (dC, dI)) (ci := 5) (v := .ref (ρ h0 16)) (C := RX5) (T := TX5) (N := 17) hx hb hts hfX5 hown hK hP q13 eq13 rfl 16 (by decide) (hts (.fieldLink RX5 35 "ColdShips$Ship" "gaugeTons" "[I") wa_102) (fun _ h9 => h9) rfl dX5_gaugeCounts_47 ?_
          refine lv_iload_n hx hb dX5_gaugeCounts_50 rfl (lv_at hl 0 rfl) ?_
          refine lv_iconst (v := 1) hx hb dX5_gaugeCounts_51 (by decide) ?_
          refine lv_isub hx hb dX5_gaugeCounts_52 ?_
          refine lv_topi (fun z29 ez29 => ?_)
          have iz29 : z29.toInt = w1.toInt - 1 := zi_sub ez29 rfl rfl (by omega) (by omega)
          refine va_iald hx hb hK hP q27 0 eq27 rfl (vp_in_iff.mpr ⟨by omega, by omega⟩) dX5_gaugeCounts_53 ?_
          refine lv_topi (fun z30 ez30 => ?_)
          refine lv_icmp_ge (tgt := 59) hx hb dX5_gaugeCounts_54 (by decide) (fun c31 => ?_) (fun c31 => ?_)
          · have ic31 : z28.toInt ≥ z30.toInt := zi_ge rfl rfl c31
            obtain ⟨z32, ez32⟩ : ∃ y : Int32, y = w1 + 1 := ⟨_, rfl⟩
            refine lv_iinc (v := z32) (lv' := [(1, .int z32), (0, .ref h0)]) hx hb dX5_gaugeCounts_59 hl (k := 0) rfl (by rw [ez32]; rfl) (by decide) rfl (fun ls hl => ?_)
            have iz32 : z32.toInt = w1.toInt + 1 := zi_add ez32 rfl rfl (by omega) (by omega)
            refine lv_goto (tgt := 2) hx hb dX5_gaugeCounts_62 (by decide) ?_
            exact ih2 _ _ _ _ (by rw [hn3]; omega) ⟨z32, rfl, (by omega), rfl, rfl, lv_sub hl [0, 1] rfl⟩
          · have ic31 : z28.toInt < z30.toInt := zi_gef rfl rfl c31
            refine lv_iconst (v := 0) hx hb dX5_gaugeCounts_57 (by decide) ?_
            exact W.zret (v := 0) hx hb hr rfl (fun t ht hW => ⟨0, rfl, ⟨(by first | decide | omega), trivial⟩, ht⟩) (fun _ h => by cases h) dX5_gaugeCounts_58
    · have ic18 : z17.toInt = (-1) := zi_nef rfl rfl c18
      refine lv_iconst (v := 0) hx hb dX5_gaugeCounts_17 (by decide) ?_
      exact W.zret (v := 0) hx hb hr rfl (fun t ht hW => ⟨0, rfl, ⟨(by first | decide | omega), trivial⟩, ht⟩) (fun _ h => by cases h) dX5_gaugeCounts_18
set_option maxHeartbeats 4000000 in
set_option maxRecDepth 100000 in
theorem t_X5_tonsAt (l : Launch) (dC : Nat → ClassId) (dI : Nat → Nat → Nat) (sz : Nat) (Ω : Nat → (Nat → Nat) → va_E → Prop) (κ : Nat → ClassId) (τ ν : Nat → Nat) (ρ : Nat → Nat → Nat) (L : List Nat) (f : Nat → va_E) (hG : tp_G τ ν ρ L) (hT : tp_T Ω κ τ ν ρ f) (h0 : Nat) (a : Int32) (ht_h0 : τ h0 = 6) : Met l yX5_tonsAt wqX5_tonsAt ({ frames := 2, cells := 0, slots := 0, locals := 400 }) (va_Pc [.ref h0, .int a] (pz_B dC dI (tp_K κ) (va_pl L f) sz)) (vp_Sl (fun r => True ∧ True)) 0 0 (fun _ => False) := by
  refine Met.ofW (cc := cX5_tonsAt) (maxL := 6) (ret := some .long) (by decide) rfl ?_
  intro p e s m args below meth c s₁ B hml hv
  obtain ⟨rfl, hsz, hP, hK, hD0, hN⟩ := hv
  have hx := B.exec
  have hb := B.bytes
  have hr := B.returns
  have hts := fun (w : Cond) (h : w ∈ WALL) => atoms_spec (ws := wqX5_tonsAt) B.pre w (List.mem_cons_of_mem _ h)
  have hown : s.vm.findClass RX5 = some m.cls := findClass_of_methodNamed B.named
  have hlocks := B.notSynchronized
  subst hsz
  have hD := hD0
  have hS : va_S (fun _ => True) s.heap s.heap [] := va_S.rf
  have hl := lv_entry ([.ref h0, .int a]) (n := 6) (Nat.le_of_ble_eq_true rfl)
  rw [lg_entry_eq]
  generalize (lg_sl ([.ref h0, .int a]) ++ List.replicate (6 - (lg_sl ([.ref h0, .int a])).length) Slot.unset).toArray = ls at hl ⊢
  have hl : lv_has ls 6 [(0, .ref h0), (1, .int a)] := hl
  refine lv_iload_n hx hb dX5_tonsAt_0 rfl (lv_at hl 1 rfl) ?_
  refine lv_aload_n hx hb dX5_tonsAt_1 rfl (lv_at hl 0 rfl) ?_
  refine tgk_6 hG ht_h0 (fun y1 y2 y2n y3 y3n y4 y4n y5 y5n y6 y6n y7 y7n => ?_)
  refine tpk_6 hT ht_h0 (fun o8_x1 o8_x2 o8_x3 o8_x4 o8_x5 o8_x6 o8_x10 o8_x11 o8_x12 o8_x14 hf_o8 ro8_0 ro8_1 ro8_2 => ?_)
  refine tpk_pos (tp_in hG ht_h0 (by decide)) hf_o8 (fun q9 eq9 => ?_)
  refine va_get (D := (dC, dI)) (ci := 5) (v := .ref (ρ h0 15)) (C := RX5) (T := TX5) (N := 17) hx hb hts hfX5 hown hK hP q9 eq9 rfl 15 (by decide) (hts (.fieldLink RX5 32 "ColdShips$Ship" "gaugeCentimetres" "[I") wa_101) (fun _ h9 => h9) rfl dX5_tonsAt_2 ?_
  refine lv_iconst (v := 0) hx hb dX5_tonsAt_5 (by decide) ?_
  refine tpk_20 hT y6 y6n (fun g11 hf_o10 => ?_)
  refine tpk_pos (tp_in hG y6 (by decide)) hf_o10 (fun q12 eq12 => ?_)
  refine va_iald hx hb hK hP q12 0 eq12 rfl (vp_in_iff.mpr ⟨by decide, by decide⟩) dX5_tonsAt_6 ?_
  refine lv_topi (fun z13 ez13 => ?_)
  refine lv_icmp_gt (tgt := 18) hx hb dX5_tonsAt_7 (by decide) (fun c14 => ?_) (fun c14 => ?_)
  · have ic14 : a.toInt > z13.toInt := zi_gt rfl rfl c14
    refine lv_iconst (v := 1) hx hb dX5_tonsAt_18 (by decide) ?_
    refine lv_istore_n (lv' := [(2, .int 1), (0, .ref h0), (1, .int a)]) hx hb dX5_tonsAt_19 rfl hl (by decide) rfl (fun ls hl => ?_)
    refine pz_loop (fun n0 H locs ls => ∃ w15 : Int32, n0 = (4 - (w15.toInt)).toNat ∧ (1 ≤ w15.toInt ∧ w15.toInt ≤ 4) ∧ H = s.heap ∧ locs = [] ∧ lv_has ls 6 [(2, .int w15), (0, .ref h0), (1, .int a)]) ?_ _ _ _ _ ⟨1, rfl, (by have : (1 : Int32).toInt = 1 := rfl; omega), rfl, rfl, lv_sub hl [0, 1, 2] rfl⟩
    intro n0 H locs ls hI ih16
    refine Exists.elim hI (fun w15 hE90 => tn_5 hE90 (fun hn17 rw15 e92 e93 hl => ?_))
    clear hE90 hI; subst e92; subst e93
    refine lv_iload_n hx hb dX5_tonsAt_20 rfl (lv_at hl 0 rfl) ?_
    refine lv_iconst (v := 4) hx hb dX5_tonsAt_21 (by decide) ?_
    refine lv_icmp_ge (tgt := 107) hx hb dX5_tonsAt_22 (by decide) (fun c18 => ?_) (fun c18 => ?_)
    · have ic18 : w15.toInt ≥ 4 := zi_ge rfl rfl c18
      refine lv_aload_n hx hb dX5_tonsAt_107 rfl (lv_at hl 1 rfl) ?_
      refine va_get (D := (dC, dI)) (ci := 5) (v := .ref (ρ h0 16)) (C := RX5) (T := TX5) (N := 17) hx hb hts hfX5 hown hK hP q9 eq9 rfl 16 (by decide) (hts (.fieldLink RX5 35 "ColdShips$Ship" "gaugeTons" "[I") wa_102) (fun _ h9 => h9) rfl dX5_tonsAt_108 ?_
      refine lv_iconst (v := 3) hx hb dX5_tonsAt_111 (by decide) ?_
      refine tpk_20 hT y7 y7n (fun g20 hf_o19 => ?_)
      refine tpk_pos (tp_in hG y7 (by decide)) hf_o19 (fun q21 eq21 => ?_)
      refine va_iald hx hb hK hP q21 0 eq21 rfl (vp_in_iff.mpr ⟨by decide, by decide⟩) dX5_tonsAt_112 ?_
      refine lv_topi (fun z22 ez22 => ?_)
      refine lv_i2l hx hb dX5_tonsAt_113 rfl ?_
      exact W.lret (v := z22.toInt64) hx hb hr (fun t ht hW => ⟨z22.toInt64, rfl, ⟨trivial, trivial⟩, ht⟩) (fun _ h => by cases h) dX5_tonsAt_114
    · have ic18 : w15.toInt < 4 := zi_gef rfl rfl c18
      refine lv_aload_n hx hb dX5_tonsAt_25 rfl (lv_at hl 1 rfl) ?_
      refine va_get (D := (dC, dI)) (ci := 5) (v := .ref (ρ h0 15)) (C := RX5) (T := TX5) (N := 17) hx hb hts hfX5 hown hK hP q9 eq9 rfl 15 (by decide) (hts (.fieldLink RX5 32 "ColdShips$Ship" "gaugeCentimetres" "[I") wa_101) (fun _ h9 => h9) rfl dX5_tonsAt_26 ?_
      refine lv_iload_n hx hb dX5_tonsAt_29 rfl (lv_at hl 0 rfl) ?_
      refine va_iald hx hb hK hP q12 0 eq12 rfl (vp_in_iff.mpr ⟨by omega, by omega⟩) dX5_tonsAt_30 ?_
      refine lv_topi (fun z23 ez23 => ?_)
      refine lv_aload_n hx hb dX5_tonsAt_31 rfl (lv_at hl 1 rfl) ?_
      refine va_get (D := (dC, dI)) (ci := 5) (v := .ref (ρ h0 15)) (C := RX5) (T := TX5) (N := 17) hx hb hts hfX5 hown hK hP q9 eq9 rfl 15 (by decide) (hts (.fieldLink RX5 32 "ColdShips$Ship" "gaugeCentimetres" "[I") wa_101) (fun _ h9 => h9) rfl dX5_tonsAt_32 ?_
      refine lv_iload_n hx hb dX5_tonsAt_35 rfl (lv_at hl 0 rfl) ?_
      refine lv_iconst (v := 1) hx hb dX5_tonsAt_36 (by decide) ?_
      refine lv_isub hx hb dX5_tonsAt_37 ?_
      refine lv_topi (fun z24 ez24 => ?_)
      have iz24 : z24.toInt = w15.toInt - 1 := zi_sub ez24 rfl rfl (by omega) (by omega)
      refine va_iald hx hb hK hP q12 0 eq12 rfl (vp_in_iff.mpr ⟨by omega, by omega⟩) dX5_tonsAt_38 ?_
      refine lv_topi (fun z25 ez25 => ?_)
      refine lv_isub hx hb dX5_tonsAt_39 ?_
      refine lv_topi (fun z26 ez26 => ?_)
      refine lv_istore_n (lv' := [(3, .int z26), (2, .int w15), (0, .ref h0), (1, .int a)]) hx hb dX5_tonsAt_40 rfl hl (by decide) rfl (fun ls hl => ?_)
      refine lv_iload_n hx hb dX5_tonsAt_41 rfl (lv_at hl 3 rfl) ?_
      refine lv_aload_n hx hb dX5_tonsAt_42 rfl (lv_at hl 2 rfl) ?_
      refine va_get (D := (dC, dI)) (ci := 5) (v := .ref (ρ h0 15)) (C := RX5) (T := TX5) (N := 17) hx hb hts hfX5 hown hK hP q9 eq9 rfl 15 (by decide) (hts (.fieldLink RX5 32 "ColdShips$Ship" "gaugeCentimetres" "[I") wa_101) (fun _ h9 => h9) rfl dX5_tonsAt_43 ?_
      refine lv_iload_n hx hb dX5_tonsAt_46 rfl (lv_at hl 1 rfl) ?_
      refine va_iald hx hb hK hP q12 0 eq12 rfl (vp_in_iff.mpr ⟨by omega, by omega⟩) dX5_tonsAt_47 ?_
      refine lv_topi (fun z27 ez27 => ?_)
      refine lv_icmp_ge (tgt := 101) hx hb dX5_tonsAt_48 (by decide) (fun c28 => ?_) (fun c28 => ?_)
      · have ic28 : a.toInt ≥ z27.toInt := zi_ge rfl rfl c28
        obtain ⟨z29, ez29⟩ : ∃ y : Int32, y = w15 + 1 := ⟨_, rfl⟩
        refine lv_iinc (v := z29) (lv' := [(2, .int z29), (3, .int z26), (0, .ref h0), (1, .int a)]) hx hb dX5_tonsAt_101 hl (k := 1) rfl (by rw [ez29]; rfl) (by decide) rfl (fun ls hl => ?_)
        have iz29 : z29.toInt = w15.toInt + 1 := zi_add ez29 rfl rfl (by omega) (by omega)
        refine lv_goto (tgt := 20) hx hb dX5_tonsAt_104 (by decide) ?_
        exact ih16 _ _ _ _ (by rw [hn17]; omega) ⟨z29, rfl, (by omega), rfl, rfl, lv_sub hl [0, 2, 3] rfl⟩
      · have ic28 : a.toInt < z27.toInt := zi_gef rfl rfl c28
        refine lv_iload_n hx hb dX5_tonsAt_51 rfl (lv_at hl 0 rfl) ?_
        refine lv_if_le (tgt := 101) hx hb dX5_tonsAt_52 (by decide) (fun c30 => ?_) (fun c30 => ?_)
        · have ic30 : z26.toInt ≤ 0 := zi_le rfl rfl c30
          obtain ⟨z31, ez31⟩ : ∃ y : Int32, y = w15 + 1 := ⟨_, rfl⟩
          refine lv_iinc (v := z31) (lv' := [(2, .int z31), (3, .int z26), (0, .ref h0), (1, .int a)]) hx hb dX5_tonsAt_101 hl (k := 1) rfl (by rw [ez31]; rfl) (by decide) rfl (fun ls hl => ?_)
          have iz31 : z31.toInt = w15.toInt + 1 := zi_add ez31 rfl rfl (by omega) (by omega)
          refine lv_goto (tgt := 20) hx hb dX5_tonsAt_104 (by decide) ?_
          exact ih16 _ _ _ _ (by rw [hn17]; omega) ⟨z31, rfl, (by omega), rfl, rfl, lv_sub hl [0, 2, 3] rfl⟩
        · have ic30 : z26.toInt > 0 := zi_lef rfl rfl c30
          refine lv_aload_n hx hb dX5_tonsAt_55 rfl (lv_at hl 2 rfl) ?_
          refine va_get (D := (dC, dI)) (ci := 5) (v := .ref (ρ h0 16)) (C := RX5) (T := TX5) (N := 17) hx hb hts hfX5 hown hK hP q9 eq9 rfl 16 (by decide) (hts (.fieldLink RX5 35 "ColdShips$Ship" "gaugeTons" "[I") wa_102) (fun _ h9 => h9) rfl dX5_tonsAt_56 ?_
          refine lv_iload_n hx hb dX5_tonsAt_59 rfl (lv_at hl 1 rfl) ?_
          refine tpk_20 hT y7 y7n (fun g33 hf_o32 => ?_)
          refine tpk_pos (tp_in hG y7 (by decide)) hf_o32 (fun q34 eq34 => ?_)
          refine va_iald hx hb hK hP q34 0 eq34 rfl (vp_in_iff.mpr ⟨by omega, by omega⟩) dX5_tonsAt_60 ?_
          refine lv_topi (fun z35 ez35 => ?_)
          refine lv_aload_n hx hb dX5_tonsAt_61 rfl (lv_at hl 2 rfl) ?_
          refine va_get (D := (dC, dI)) (ci := 5) (v := .ref (ρ h0 16)) (C := RX5) (T := TX5) (N := 17) hx hb hts hfX5 hown hK hP q9 eq9 rfl 16 (by decide) (hts (.fieldLink RX5 35 "ColdShips$Ship" "gaugeTons" "[I") wa_102) (fun _ h9 => h9) rfl dX5_tonsAt_62 ?_
          refine lv_iload_n hx hb dX5_tonsAt_65 rfl (lv_at hl 1 rfl) ?_
          refine lv_iconst (v := 1) hx hb dX5_tonsAt_66 (by decide) ?_
          refine lv_isub hx hb dX5_tonsAt_67 ?_
          refine lv_topi (fun z36 ez36 => ?_)
          have iz36 : z36.toInt = w15.toInt - 1 := zi_sub ez36 rfl rfl (by omega) (by omega)
          refine va_iald hx hb hK hP q34 0 eq34 rfl (vp_in_iff.mpr ⟨by omega, by omega⟩) dX5_tonsAt_68 ?_
          refine lv_topi (fun z37 ez37 => ?_)
          refine lv_isub hx hb dX5_tonsAt_69 ?_
          refine lv_topi (fun z38 ez38 => ?_)
          refine lv_i2l hx hb dX5_tonsAt_70 rfl ?_
          refine lv_lstore (lv' := [(4, .long z38.toInt64), (3, .int z26), (2, .int w15), (0, .ref h0), (1, .int a)]) hx hb dX5_tonsAt_71 hl (by decide) rfl (fun ls hl => ?_)
          refine lv_aload_n hx hb dX5_tonsAt_73 rfl (lv_at hl 3 rfl) ?_
          refine va_get (D := (dC, dI)) (ci := 5) (v := .ref (ρ h0 16)) (C := RX5) (T := TX5) (N := 17) hx hb hts hfX5 hown hK hP q9 eq9 rfl 16 (by decide) (hts (.fieldLink RX5 35 "ColdShips$Ship" "gaugeTons" "[I") wa_102) (fun _ h9 => h9) rfl dX5_tonsAt_74 ?_
          refine lv_iload_n hx hb dX5_tonsAt_77 rfl (lv_at hl 2 rfl) ?_
          refine lv_iconst (v := 1) hx hb dX5_tonsAt_78 (by decide) ?_
          refine lv_isub hx hb dX5_tonsAt_79 ?_
          refine lv_topi (fun z39 ez39 => ?_)
          have iz39 : z39.toInt = w15.toInt - 1 := zi_sub ez39 rfl rfl (by omega) (by omega)
          refine va_iald hx hb hK hP q34 0 eq34 rfl (vp_in_iff.mpr ⟨by omega, by omega⟩) dX5_tonsAt_80 ?_
          refine lv_topi (fun z40 ez40 => ?_)
          refine lv_i2l hx hb dX5_tonsAt_81 rfl ?_
          refine lv_lload hx hb dX5_tonsAt_82 (lv_at hl 0 rfl) ?_
          refine lv_iload_n hx hb dX5_tonsAt_84 rfl (lv_at hl 4 rfl) ?_
          refine lv_aload_n hx hb dX5_tonsAt_85 rfl (lv_at hl 3 rfl) ?_
          refine va_get (D := (dC, dI)) (ci := 5) (v := .ref (ρ h0 15)) (C := RX5) (T := TX5) (N := 17) hx hb hts hfX5 hown hK hP q9 eq9 rfl 15 (by decide) (hts (.fieldLink RX5 32 "ColdShips$Ship" "gaugeCentimetres" "[I") wa_101) (fun _ h9 => h9) rfl dX5_tonsAt_86 ?_
          refine lv_iload_n hx hb dX5_tonsAt_89 rfl (lv_at hl 2 rfl) ?_
          refine lv_iconst (v := 1) hx hb dX5_tonsAt_90 (by decide) ?_
          refine lv_isub hx hb dX5_tonsAt_91 ?_
          refine lv_topi (fun z41 ez41 => ?_)
          have iz41 : z41.toInt = w15.toInt - 1 := zi_sub ez41 rfl rfl (by omega) (by omega)
          refine va_iald hx hb hK hP q12 0 eq12 rfl (vp_in_iff.mpr ⟨by omega, by omega⟩) dX5_tonsAt_92 ?_
          refine lv_topi (fun z42 ez42 => ?_)
          refine lv_isub hx hb dX5_tonsAt_93 ?_
          refine lv_topi (fun z43 ez43 => ?_)
          refine lv_i2l hx hb dX5_tonsAt_94 rfl ?_
          refine lv_lmul hx hb dX5_tonsAt_95 ?_
          refine lv_topl (fun z44 ez44 => ?_)
          refine lv_iload_n hx hb dX5_tonsAt_96 rfl (lv_at hl 1 rfl) ?_
          refine lv_i2l hx hb dX5_tonsAt_97 rfl ?_
          refine lv_ldiv hx hb dX5_tonsAt_98 (zl_nz (by omega) (Int32.toInt_toInt64 z26)) ?_
          refine lv_topl (fun z45 ez45 => ?_)
          refine lv_ladd hx hb dX5_tonsAt_99 ?_
          refine lv_topl (fun z46 ez46 => ?_)
          exact W.lret (v := z46) hx hb hr (fun t ht hW => ⟨z46, rfl, ⟨trivial, trivial⟩, ht⟩) (fun _ h => by cases h) dX5_tonsAt_100
  · have ic14 : a.toInt ≤ z13.toInt := zi_gtf rfl rfl c14
    refine lv_aload_n hx hb dX5_tonsAt_10 rfl (lv_at hl 0 rfl) ?_
    refine va_get (D := (dC, dI)) (ci := 5) (v := .ref (ρ h0 16)) (C := RX5) (T := TX5) (N := 17) hx hb hts hfX5 hown hK hP q9 eq9 rfl 16 (by decide) (hts (.fieldLink RX5 35 "ColdShips$Ship" "gaugeTons" "[I") wa_102) (fun _ h9 => h9) rfl dX5_tonsAt_11 ?_
    refine lv_iconst (v := 0) hx hb dX5_tonsAt_14 (by decide) ?_
    refine tpk_20 hT y7 y7n (fun g48 hf_o47 => ?_)
    refine tpk_pos (tp_in hG y7 (by decide)) hf_o47 (fun q49 eq49 => ?_)
    refine va_iald hx hb hK hP q49 0 eq49 rfl (vp_in_iff.mpr ⟨by decide, by decide⟩) dX5_tonsAt_15 ?_
    refine lv_topi (fun z50 ez50 => ?_)
    refine lv_i2l hx hb dX5_tonsAt_16 rfl ?_
    exact W.lret (v := z50.toInt64) hx hb hr (fun t ht hW => ⟨z50.toInt64, rfl, ⟨trivial, trivial⟩, ht⟩) (fun _ h => by cases h) dX5_tonsAt_17
set_option maxHeartbeats 4000000 in
set_option maxRecDepth 100000 in
theorem t_X5_copyFrom (l : Launch) (dC : Nat → ClassId) (dI : Nat → Nat → Nat) (sz : Nat) (Ω : Nat → (Nat → Nat) → va_E → Prop) (κ : Nat → ClassId) (τ ν : Nat → Nat) (ρ : Nat → Nat → Nat) (L : List Nat) (f : Nat → va_E) (hG : tp_G τ ν ρ L) (hT : tp_T Ω κ τ ν ρ f) (h0 : Nat) (h1 : Nat) (ht_h0 : τ h0 = 6) (ht_h1 : τ h1 = 6) : Met l yX5_copyFrom wqX5_copyFrom ({ frames := 3, cells := 0, slots := 0, locals := 800 }) (va_Pc [.ref h0, .ref h1] (pz_B dC dI (tp_K κ) (va_pl L f) sz)) (va_Qv (fun (f1 : Nat → va_E) => tp_T Ω κ τ ν ρ f1 ∧ tp_F τ [6, 8, 20, 21] f f1 ∧ True) (fun (f1 : Nat → va_E) (t : State) => pz_E dC dI (tp_K κ) (va_A (va_pl L f) sz) (va_pl L f1) t) (va_A (va_pl L f) sz)) 0 0 (va_A (va_pl L f) sz) := by
  refine Met.ofW (cc := cX5_copyFrom) (maxL := 2) (ret := none) (by decide) rfl ?_
  intro p e s m args below meth c s₁ B hml hv
  obtain ⟨rfl, hsz, hP, hK, hD0, hN⟩ := hv
  have hx := B.exec
  have hb := B.bytes
  have hr := B.returns
  have hts := fun (w : Cond) (h : w ∈ WALL) => atoms_spec (ws := wqX5_copyFrom) B.pre w (List.mem_cons_of_mem _ h)
  have hown : s.vm.findClass RX5 = some m.cls := findClass_of_methodNamed B.named
  have hlocks := B.notSynchronized
  subst hsz
  have hD := hD0.self (sz := s.heap.size)
  generalize hAe : va_A (va_pl L f) s.heap.size = A at hD ⊢
  have hA : ∀ q : Nat, s.heap.size ≤ q → A q := fun q h => by rw [← hAe]; exact Or.inr h
  have hS : va_S A s.heap s.heap [] := va_S.rf
  have hR : tp_F τ [6, 8, 20, 21] f f := tp_F.rf
  have hl := lv_entry ([.ref h0, .ref h1]) (n := 2) (Nat.le_of_ble_eq_true rfl)
  rw [lg_entry_eq]
  generalize (lg_sl ([.ref h0, .ref h1]) ++ List.replicate (2 - (lg_sl ([.ref h0, .ref h1])).length) Slot.unset).toArray = ls at hl ⊢
  have hl : lv_has ls 2 [(0, .ref h0), (1, .ref h1)] := hl
  refine lv_aload_n hx hb dX5_copyFrom_0 rfl (lv_at hl 0 rfl) ?_
  refine tgk_6 hG ht_h0 (fun y1 y2 y2n y3 y3n y4 y4n y5 y5n y6 y6n y7 y7n => ?_)
  refine tpk_6 hT ht_h0 (fun o8_x1 o8_x2 o8_x3 o8_x4 o8_x5 o8_x6 o8_x10 o8_x11 o8_x12 o8_x14 hf_o8 ro8_0 ro8_1 ro8_2 => ?_)
  refine tpk_pos (tp_in hG ht_h0 (by decide)) hf_o8 (fun q9 eq9 => ?_)
  refine va_get (D := (dC, dI)) (ci := 5) (v := .ref (ρ h0 0)) (C := RX5) (T := TX5) (N := 17) hx hb hts hfX5 hown hK hP q9 eq9 rfl 0 (by decide) (hts (.fieldLink RX5 12 "ColdShips$Ship" "tank" "LColdShips$Tank;") wa_96) (fun _ h9 => h9) rfl dX5_copyFrom_1 ?_
  refine lv_aload_n hx hb dX5_copyFrom_4 rfl (lv_at hl 1 rfl) ?_
  refine tgk_6 hG ht_h1 (fun y10 y11 y11n y12 y12n y13 y13n y14 y14n y15 y15n y16 y16n => ?_)
  refine tpk_6 hT ht_h1 (fun o17_x1 o17_x2 o17_x3 o17_x4 o17_x5 o17_x6 o17_x10 o17_x11 o17_x12 o17_x14 hf_o17 ro17_0 ro17_1 ro17_2 => ?_)
  refine tpk_pos (tp_in hG ht_h1 (by decide)) hf_o17 (fun q18 eq18 => ?_)
  refine va_get (D := (dC, dI)) (ci := 5) (v := .ref (ρ h1 0)) (C := RX5) (T := TX5) (N := 17) hx hb hts hfX5 hown hK hP q18 eq18 rfl 0 (by decide) (hts (.fieldLink RX5 12 "ColdShips$Ship" "tank" "LColdShips$Tank;") wa_96) (fun _ h9 => h9) rfl dX5_copyFrom_5 ?_
  refine tgk_8 hG y1 (fun y19 y19n y20 y20n y21 y21n => ?_)
  refine tpk_8 hT y1 (fun o22_x0 o22_x1 o22_x2 o22_x3 hf_o22 ro22_0 => ?_)
  refine tpk_pos (tp_in hG y1 (by decide)) hf_o22 (fun q23 eq23 => ?_)
  have hFc := tp_fr hD hS hA
  refine va_callv (va_runV (As := [.ref (ρ h1 0)]) (rest := []) ⟨hx, hb, hml, hown, hts⟩ (t_X7_copyFrom l dC dI _ Ω κ τ ν ρ L f hG hT (ρ h0 0) (ρ h1 0) y1 y10) (cwV 1 hts gX5_copyFrom_X7_copyFrom rfl rfl rfl ⟨rfl, pd_X7_copyFrom⟩ ⟨Nat.le_of_ble_eq_true rfl, Nat.le_of_ble_eq_true rfl⟩) ⟨pz_blind, va_recv hK hP (ci := 7) (q0 := q23) rfl eq23, pz_pre hP hK hD hN⟩ rfl rfl hl.1 rfl (lv_room (Nat.le_of_ble_eq_true rfl)) dX5_copyFrom_8 ⟨Nat.le_of_ble_eq_true rfl, Nat.le_of_ble_eq_true rfl⟩) hS (fun q _ h => hFc q h) hFc (fun f26 t H1 locs ht hvm hw25 hB hz1 hk1 hS => ?_)
  refine tn_3 hw25 (fun hT hF27 hw25p => ?_); clear hw25
  have hR := hR.then hF27 (by decide)
  have hP := hB.1; rw [ht] at hP; have hD := tp_ad f26 hD; clear hB hFc hz1 hk1; subst ht; generalize t.heap = H at hP hS ⊢
  refine lv_aload_n hx hb dX5_copyFrom_11 rfl (lv_at hl 0 rfl) ?_
  refine lv_aload_n hx hb dX5_copyFrom_12 rfl (lv_at hl 1 rfl) ?_
  have hf_28 : f26 h1 = .inr (5, [.ref (ρ h1 0), .int o17_x1, .int o17_x2, .int o17_x3, .int o17_x4, .int o17_x5, .int o17_x6, .ref (ρ h1 7), .ref (ρ h1 8), .ref (ρ h1 9), .int o17_x10, .int o17_x11, .int o17_x12, .ref (ρ h1 13), .int o17_x14, .ref (ρ h1 15), .ref (ρ h1 16)]) := (hF27 _ (by rw [ht_h1]; decide)).trans hf_o17
  refine tpk_pos (tp_in hG ht_h1 (by decide)) hf_28 (fun q29 eq29 => ?_)
  refine va_get (D := (dC, dI)) (ci := 5) (v := .int o17_x1) (C := RX5) (T := TX5) (N := 17) hx hb hts hfX5 hown hK hP q29 eq29 rfl 1 (by decide) (hts (.fieldLink RX5 42 "ColdShips$Ship" "fuel" "I") wa_242) (fun _ h9 => h9) rfl dX5_copyFrom_13 ?_
  have hf_30 : f26 h0 = .inr (5, [.ref (ρ h0 0), .int o8_x1, .int o8_x2, .int o8_x3, .int o8_x4, .int o8_x5, .int o8_x6, .ref (ρ h0 7), .ref (ρ h0 8), .ref (ρ h0 9), .int o8_x10, .int o8_x11, .int o8_x12, .ref (ρ h0 13), .int o8_x14, .ref (ρ h0 15), .ref (ρ h0 16)]) := (hF27 _ (by rw [ht_h0]; decide)).trans hf_o8
  refine tpk_pos (tp_in hG ht_h0 (by decide)) hf_30 (fun q31 eq31 => ?_)
  refine va_put (D := (dC, dI)) (ci := 5) (v := .int o17_x1) (ty := .int) (C := RX5) (T := TX5) (N := 17) hx hb hts hfX5 tyX5 tyX5_ok nmX5 hown hK hP hD hS q31 eq31 rfl 1 (by decide) (hts (.fieldLink RX5 42 "ColdShips$Ship" "fuel" "I") wa_242) (fun _ h9 => h9) rfl (tyX5_ok 1 (by decide)) rfl rfl (Nat.le_of_ble_eq_true rfl) dX5_copyFrom_16 (tp_k (.inr (5, [.ref (ρ h0 0), .int o17_x1, .int o8_x2, .int o8_x3, .int o8_x4, .int o8_x5, .int o8_x6, .ref (ρ h0 7), .ref (ρ h0 8), .ref (ρ h0 9), .int o8_x10, .int o8_x11, .int o8_x12, .ref (ρ h0 13), .int o8_x14, .ref (ρ h0 15), .ref (ρ h0 16)])) hD (tp_in hG ht_h0 (by decide)) eq31 (fun f32 H locs hP hD hS g34 k33 => ?_))
  have hT := hT.up ht_h0 g34 k33 ⟨_, _, _, _, _, _, _, _, _, _, rfl, (by first | decide | omega | (omega)), (by first | decide | omega | (omega)), (by first | decide | omega | (omega))⟩
  have hR := hR.up ht_h0 (by decide) k33
  refine lv_aload_n hx hb dX5_copyFrom_19 rfl (lv_at hl 0 rfl) ?_
  refine lv_aload_n hx hb dX5_copyFrom_20 rfl (lv_at hl 1 rfl) ?_
  refine tpk_6 hT ht_h1 (fun o35_x1 o35_x2 o35_x3 o35_x4 o35_x5 o35_x6 o35_x10 o35_x11 o35_x12 o35_x14 hf_o35 ro35_0 ro35_1 ro35_2 => ?_)
  refine tpk_pos (tp_in hG ht_h1 (by decide)) hf_o35 (fun q36 eq36 => ?_)
  refine va_get (D := (dC, dI)) (ci := 5) (v := .int o35_x2) (C := RX5) (T := TX5) (N := 17) hx hb hts hfX5 hown hK hP q36 eq36 rfl 2 (by decide) (hts (.fieldLink RX5 46 "ColdShips$Ship" "where" "I") wa_243) (fun _ h9 => h9) rfl dX5_copyFrom_21 ?_
  refine tpk_pos (tp_in hG ht_h0 (by decide)) g34 (fun q37 eq37 => ?_)
  refine va_put (D := (dC, dI)) (ci := 5) (v := .int o35_x2) (ty := .int) (C := RX5) (T := TX5) (N := 17) hx hb hts hfX5 tyX5 tyX5_ok nmX5 hown hK hP hD hS q37 eq37 rfl 2 (by decide) (hts (.fieldLink RX5 46 "ColdShips$Ship" "where" "I") wa_243) (fun _ h9 => h9) rfl (tyX5_ok 2 (by decide)) rfl rfl (Nat.le_of_ble_eq_true rfl) dX5_copyFrom_24 (tp_k (.inr (5, [.ref (ρ h0 0), .int o17_x1, .int o35_x2, .int o8_x3, .int o8_x4, .int o8_x5, .int o8_x6, .ref (ρ h0 7), .ref (ρ h0 8), .ref (ρ h0 9), .int o8_x10, .int o8_x11, .int o8_x12, .ref (ρ h0 13), .int o8_x14, .ref (ρ h0 15), .ref (ρ h0 16)])) hD (tp_in hG ht_h0 (by decide)) eq37 (fun f38 H locs hP hD hS g40 k39 => ?_))
  have hT := hT.up ht_h0 g40 k39 ⟨_, _, _, _, _, _, _, _, _, _, rfl, (by first | decide | omega | (omega)), (by first | decide | omega | (omega)), (by first | decide | omega | (omega))⟩
  have hR := hR.up ht_h0 (by decide) k39
  refine lv_aload_n hx hb dX5_copyFrom_27 rfl (lv_at hl 0 rfl) ?_
  refine lv_aload_n hx hb dX5_copyFrom_28 rfl (lv_at hl 1 rfl) ?_
  refine tpk_6 hT ht_h1 (fun o41_x1 o41_x2 o41_x3 o41_x4 o41_x5 o41_x6 o41_x10 o41_x11 o41_x12 o41_x14 hf_o41 ro41_0 ro41_1 ro41_2 => ?_)
  refine tpk_pos (tp_in hG ht_h1 (by decide)) hf_o41 (fun q42 eq42 => ?_)
  refine va_get (D := (dC, dI)) (ci := 5) (v := .int o41_x3) (C := RX5) (T := TX5) (N := 17) hx hb hts hfX5 hown hK hP q42 eq42 rfl 3 (by decide) (hts (.fieldLink RX5 49 "ColdShips$Ship" "left" "I") wa_244) (fun _ h9 => h9) rfl dX5_copyFrom_29 ?_
  refine tpk_pos (tp_in hG ht_h0 (by decide)) g40 (fun q43 eq43 => ?_)
  refine va_put (D := (dC, dI)) (ci := 5) (v := .int o41_x3) (ty := .int) (C := RX5) (T := TX5) (N := 17) hx hb hts hfX5 tyX5 tyX5_ok nmX5 hown hK hP hD hS q43 eq43 rfl 3 (by decide) (hts (.fieldLink RX5 49 "ColdShips$Ship" "left" "I") wa_244) (fun _ h9 => h9) rfl (tyX5_ok 3 (by decide)) rfl rfl (Nat.le_of_ble_eq_true rfl) dX5_copyFrom_32 (tp_k (.inr (5, [.ref (ρ h0 0), .int o17_x1, .int o35_x2, .int o41_x3, .int o8_x4, .int o8_x5, .int o8_x6, .ref (ρ h0 7), .ref (ρ h0 8), .ref (ρ h0 9), .int o8_x10, .int o8_x11, .int o8_x12, .ref (ρ h0 13), .int o8_x14, .ref (ρ h0 15), .ref (ρ h0 16)])) hD (tp_in hG ht_h0 (by decide)) eq43 (fun f44 H locs hP hD hS g46 k45 => ?_))
  have hT := hT.up ht_h0 g46 k45 ⟨_, _, _, _, _, _, _, _, _, _, rfl, (by first | decide | omega | (omega)), (by first | decide | omega | (omega)), (by first | decide | omega | (omega))⟩
  have hR := hR.up ht_h0 (by decide) k45
  refine lv_aload_n hx hb dX5_copyFrom_35 rfl (lv_at hl 0 rfl) ?_
  refine lv_aload_n hx hb dX5_copyFrom_36 rfl (lv_at hl 1 rfl) ?_
  refine tpk_6 hT ht_h1 (fun o47_x1 o47_x2 o47_x3 o47_x4 o47_x5 o47_x6 o47_x10 o47_x11 o47_x12 o47_x14 hf_o47 ro47_0 ro47_1 ro47_2 => ?_)
  refine tpk_pos (tp_in hG ht_h1 (by decide)) hf_o47 (fun q48 eq48 => ?_)
  refine va_get (D := (dC, dI)) (ci := 5) (v := .int o47_x4) (C := RX5) (T := TX5) (N := 17) hx hb hts hfX5 hown hK hP q48 eq48 rfl 4 (by decide) (hts (.fieldLink RX5 52 "ColdShips$Ship" "half" "I") wa_245) (fun _ h9 => h9) rfl dX5_copyFrom_37 ?_
  refine tpk_pos (tp_in hG ht_h0 (by decide)) g46 (fun q49 eq49 => ?_)
  refine va_put (D := (dC, dI)) (ci := 5) (v := .int o47_x4) (ty := .int) (C := RX5) (T := TX5) (N := 17) hx hb hts hfX5 tyX5 tyX5_ok nmX5 hown hK hP hD hS q49 eq49 rfl 4 (by decide) (hts (.fieldLink RX5 52 "ColdShips$Ship" "half" "I") wa_245) (fun _ h9 => h9) rfl (tyX5_ok 4 (by decide)) rfl rfl (Nat.le_of_ble_eq_true rfl) dX5_copyFrom_40 (tp_k (.inr (5, [.ref (ρ h0 0), .int o17_x1, .int o35_x2, .int o41_x3, .int o47_x4, .int o8_x5, .int o8_x6, .ref (ρ h0 7), .ref (ρ h0 8), .ref (ρ h0 9), .int o8_x10, .int o8_x11, .int o8_x12, .ref (ρ h0 13), .int o8_x14, .ref (ρ h0 15), .ref (ρ h0 16)])) hD (tp_in hG ht_h0 (by decide)) eq49 (fun f50 H locs hP hD hS g52 k51 => ?_))
  have hT := hT.up ht_h0 g52 k51 ⟨_, _, _, _, _, _, _, _, _, _, rfl, (by first | decide | omega | (omega)), (by first | decide | omega | (omega)), (by first | decide | omega | (omega))⟩
  have hR := hR.up ht_h0 (by decide) k51
  refine lv_aload_n hx hb dX5_copyFrom_43 rfl (lv_at hl 0 rfl) ?_
  refine lv_aload_n hx hb dX5_copyFrom_44 rfl (lv_at hl 1 rfl) ?_
  refine tpk_6 hT ht_h1 (fun o53_x1 o53_x2 o53_x3 o53_x4 o53_x5 o53_x6 o53_x10 o53_x11 o53_x12 o53_x14 hf_o53 ro53_0 ro53_1 ro53_2 => ?_)
  refine tpk_pos (tp_in hG ht_h1 (by decide)) hf_o53 (fun q54 eq54 => ?_)
  refine va_get (D := (dC, dI)) (ci := 5) (v := .int o53_x5) (C := RX5) (T := TX5) (N := 17) hx hb hts hfX5 hown hK hP q54 eq54 rfl 5 (by decide) (hts (.fieldLink RX5 55 "ColdShips$Ship" "drifting" "Z") wa_246) (fun _ h9 => h9) rfl dX5_copyFrom_45 ?_
  refine tpk_pos (tp_in hG ht_h0 (by decide)) g52 (fun q55 eq55 => ?_)
  refine va_put (D := (dC, dI)) (ci := 5) (v := .int o53_x5) (ty := .boolean) (C := RX5) (T := TX5) (N := 17) hx hb hts hfX5 tyX5 tyX5_ok nmX5 hown hK hP hD hS q55 eq55 rfl 5 (by decide) (hts (.fieldLink RX5 55 "ColdShips$Ship" "drifting" "Z") wa_246) (fun _ h9 => h9) rfl (tyX5_ok 5 (by decide)) (zi_narZ (by omega) (by omega)) (zi_fitZ (by omega) (by omega)) (Nat.le_of_ble_eq_true rfl) dX5_copyFrom_48 (tp_k (.inr (5, [.ref (ρ h0 0), .int o17_x1, .int o35_x2, .int o41_x3, .int o47_x4, .int o53_x5, .int o8_x6, .ref (ρ h0 7), .ref (ρ h0 8), .ref (ρ h0 9), .int o8_x10, .int o8_x11, .int o8_x12, .ref (ρ h0 13), .int o8_x14, .ref (ρ h0 15), .ref (ρ h0 16)])) hD (tp_in hG ht_h0 (by decide)) eq55 (fun f56 H locs hP hD hS g58 k57 => ?_))
  have hT := hT.up ht_h0 g58 k57 ⟨_, _, _, _, _, _, _, _, _, _, rfl, (by first | decide | omega | (omega)), (by first | decide | omega | (omega)), (by first | decide | omega | (omega))⟩
  have hR := hR.up ht_h0 (by decide) k57
  refine lv_aload_n hx hb dX5_copyFrom_51 rfl (lv_at hl 0 rfl) ?_
  refine lv_aload_n hx hb dX5_copyFrom_52 rfl (lv_at hl 1 rfl) ?_
  refine tpk_6 hT ht_h1 (fun o59_x1 o59_x2 o59_x3 o59_x4 o59_x5 o59_x6 o59_x10 o59_x11 o59_x12 o59_x14 hf_o59 ro59_0 ro59_1 ro59_2 => ?_)
  refine tpk_pos (tp_in hG ht_h1 (by decide)) hf_o59 (fun q60 eq60 => ?_)
  refine va_get (D := (dC, dI)) (ci := 5) (v := .int o59_x6) (C := RX5) (T := TX5) (N := 17) hx hb hts hfX5 hown hK hP q60 eq60 rfl 6 (by decide) (hts (.fieldLink RX5 59 "ColdShips$Ship" "orders" "I") wa_247) (fun _ h9 => h9) rfl dX5_copyFrom_53 ?_
  refine tpk_pos (tp_in hG ht_h0 (by decide)) g58 (fun q61 eq61 => ?_)
  refine va_put (D := (dC, dI)) (ci := 5) (v := .int o59_x6) (ty := .int) (C := RX5) (T := TX5) (N := 17) hx hb hts hfX5 tyX5 tyX5_ok nmX5 hown hK hP hD hS q61 eq61 rfl 6 (by decide) (hts (.fieldLink RX5 59 "ColdShips$Ship" "orders" "I") wa_247) (fun _ h9 => h9) rfl (tyX5_ok 6 (by decide)) rfl rfl (Nat.le_of_ble_eq_true rfl) dX5_copyFrom_56 (tp_k (.inr (5, [.ref (ρ h0 0), .int o17_x1, .int o35_x2, .int o41_x3, .int o47_x4, .int o53_x5, .int o59_x6, .ref (ρ h0 7), .ref (ρ h0 8), .ref (ρ h0 9), .int o8_x10, .int o8_x11, .int o8_x12, .ref (ρ h0 13), .int o8_x14, .ref (ρ h0 15), .ref (ρ h0 16)])) hD (tp_in hG ht_h0 (by decide)) eq61 (fun f62 H locs hP hD hS g64 k63 => ?_))
  have hT := hT.up ht_h0 g64 k63 ⟨_, _, _, _, _, _, _, _, _, _, rfl, (by first | decide | omega | (omega)), (by first | decide | omega | (omega)), (by first | decide | omega | (omega))⟩
  have hR := hR.up ht_h0 (by decide) k63
  refine lv_aload_n hx hb dX5_copyFrom_59 rfl (lv_at hl 0 rfl) ?_
  refine lv_aload_n hx hb dX5_copyFrom_60 rfl (lv_at hl 1 rfl) ?_
  refine tpk_6 hT ht_h1 (fun o65_x1 o65_x2 o65_x3 o65_x4 o65_x5 o65_x6 o65_x10 o65_x11 o65_x12 o65_x14 hf_o65 ro65_0 ro65_1 ro65_2 => ?_)
  refine tpk_pos (tp_in hG ht_h1 (by decide)) hf_o65 (fun q66 eq66 => ?_)
  refine va_get (D := (dC, dI)) (ci := 5) (v := .int o65_x14) (C := RX5) (T := TX5) (N := 17) hx hb hts hfX5 hown hK hP q66 eq66 rfl 14 (by decide) (hts (.fieldLink RX5 62 "ColdShips$Ship" "list" "I") wa_248) (fun _ h9 => h9) rfl dX5_copyFrom_61 ?_
  refine tpk_pos (tp_in hG ht_h0 (by decide)) g64 (fun q67 eq67 => ?_)
  refine va_put (D := (dC, dI)) (ci := 5) (v := .int o65_x14) (ty := .int) (C := RX5) (T := TX5) (N := 17) hx hb hts hfX5 tyX5 tyX5_ok nmX5 hown hK hP hD hS q67 eq67 rfl 14 (by decide) (hts (.fieldLink RX5 62 "ColdShips$Ship" "list" "I") wa_248) (fun _ h9 => h9) rfl (tyX5_ok 14 (by decide)) rfl rfl (Nat.le_of_ble_eq_true rfl) dX5_copyFrom_64 (tp_k (.inr (5, [.ref (ρ h0 0), .int o17_x1, .int o35_x2, .int o41_x3, .int o47_x4, .int o53_x5, .int o59_x6, .ref (ρ h0 7), .ref (ρ h0 8), .ref (ρ h0 9), .int o8_x10, .int o8_x11, .int o8_x12, .ref (ρ h0 13), .int o65_x14, .ref (ρ h0 15), .ref (ρ h0 16)])) hD (tp_in hG ht_h0 (by decide)) eq67 (fun f68 H locs hP hD hS g70 k69 => ?_))
  have hT := hT.up ht_h0 g70 k69 ⟨_, _, _, _, _, _, _, _, _, _, rfl, (by first | decide | omega | (omega)), (by first | decide | omega | (omega)), (by first | decide | omega | (omega))⟩
  have hR := hR.up ht_h0 (by decide) k69
  refine lv_aload_n hx hb dX5_copyFrom_67 rfl (lv_at hl 0 rfl) ?_
  refine lv_aload_n hx hb dX5_copyFrom_68 rfl (lv_at hl 1 rfl) ?_
  refine tpk_6 hT ht_h1 (fun o71_x1 o71_x2 o71_x3 o71_x4 o71_x5 o71_x6 o71_x10 o71_x11 o71_x12 o71_x14 hf_o71 ro71_0 ro71_1 ro71_2 => ?_)
  refine tpk_pos (tp_in hG ht_h1 (by decide)) hf_o71 (fun q72 eq72 => ?_)
  refine va_get (D := (dC, dI)) (ci := 5) (v := .int o71_x10) (C := RX5) (T := TX5) (N := 17) hx hb hts hfX5 hown hK hP q72 eq72 rfl 10 (by decide) (hts (.fieldLink RX5 96 "ColdShips$Ship" "landFirst" "I") wa_505) (fun _ h9 => h9) rfl dX5_copyFrom_69 ?_
  refine tpk_pos (tp_in hG ht_h0 (by decide)) g70 (fun q73 eq73 => ?_)
  refine va_put (D := (dC, dI)) (ci := 5) (v := .int o71_x10) (ty := .int) (C := RX5) (T := TX5) (N := 17) hx hb hts hfX5 tyX5 tyX5_ok nmX5 hown hK hP hD hS q73 eq73 rfl 10 (by decide) (hts (.fieldLink RX5 96 "ColdShips$Ship" "landFirst" "I") wa_505) (fun _ h9 => h9) rfl (tyX5_ok 10 (by decide)) rfl rfl (Nat.le_of_ble_eq_true rfl) dX5_copyFrom_72 (tp_k (.inr (5, [.ref (ρ h0 0), .int o17_x1, .int o35_x2, .int o41_x3, .int o47_x4, .int o53_x5, .int o59_x6, .ref (ρ h0 7), .ref (ρ h0 8), .ref (ρ h0 9), .int o71_x10, .int o8_x11, .int o8_x12, .ref (ρ h0 13), .int o65_x14, .ref (ρ h0 15), .ref (ρ h0 16)])) hD (tp_in hG ht_h0 (by decide)) eq73 (fun f74 H locs hP hD hS g76 k75 => ?_))
  have hT := hT.up ht_h0 g76 k75 ⟨_, _, _, _, _, _, _, _, _, _, rfl, (by first | decide | omega | (omega)), (by first | decide | omega | (omega)), (by first | decide | omega | (omega))⟩
  have hR := hR.up ht_h0 (by decide) k75
  refine lv_aload_n hx hb dX5_copyFrom_75 rfl (lv_at hl 0 rfl) ?_
  refine lv_aload_n hx hb dX5_copyFrom_76 rfl (lv_at hl 1 rfl) ?_
  refine tpk_6 hT ht_h1 (fun o77_x1 o77_x2 o77_x3 o77_x4 o77_x5 o77_x6 o77_x10 o77_x11 o77_x12 o77_x14 hf_o77 ro77_0 ro77_1 ro77_2 => ?_)
  refine tpk_pos (tp_in hG ht_h1 (by decide)) hf_o77 (fun q78 eq78 => ?_)
  refine va_get (D := (dC, dI)) (ci := 5) (v := .int o77_x11) (C := RX5) (T := TX5) (N := 17) hx hb hts hfX5 hown hK hP q78 eq78 rfl 11 (by decide) (hts (.fieldLink RX5 99 "ColdShips$Ship" "landLast" "I") wa_506) (fun _ h9 => h9) rfl dX5_copyFrom_77 ?_
  refine tpk_pos (tp_in hG ht_h0 (by decide)) g76 (fun q79 eq79 => ?_)
  refine va_put (D := (dC, dI)) (ci := 5) (v := .int o77_x11) (ty := .int) (C := RX5) (T := TX5) (N := 17) hx hb hts hfX5 tyX5 tyX5_ok nmX5 hown hK hP hD hS q79 eq79 rfl 11 (by decide) (hts (.fieldLink RX5 99 "ColdShips$Ship" "landLast" "I") wa_506) (fun _ h9 => h9) rfl (tyX5_ok 11 (by decide)) rfl rfl (Nat.le_of_ble_eq_true rfl) dX5_copyFrom_80 (tp_k (.inr (5, [.ref (ρ h0 0), .int o17_x1, .int o35_x2, .int o41_x3, .int o47_x4, .int o53_x5, .int o59_x6, .ref (ρ h0 7), .ref (ρ h0 8), .ref (ρ h0 9), .int o71_x10, .int o77_x11, .int o8_x12, .ref (ρ h0 13), .int o65_x14, .ref (ρ h0 15), .ref (ρ h0 16)])) hD (tp_in hG ht_h0 (by decide)) eq79 (fun f80 H locs hP hD hS g82 k81 => ?_))
  have hT := hT.up ht_h0 g82 k81 ⟨_, _, _, _, _, _, _, _, _, _, rfl, (by first | decide | omega | (omega)), (by first | decide | omega | (omega)), (by first | decide | omega | (omega))⟩
  have hR := hR.up ht_h0 (by decide) k81
  refine lv_aload_n hx hb dX5_copyFrom_83 rfl (lv_at hl 0 rfl) ?_
  refine lv_aload_n hx hb dX5_copyFrom_84 rfl (lv_at hl 1 rfl) ?_
  refine tpk_6 hT ht_h1 (fun o83_x1 o83_x2 o83_x3 o83_x4 o83_x5 o83_x6 o83_x10 o83_x11 o83_x12 o83_x14 hf_o83 ro83_0 ro83_1 ro83_2 => ?_)
  refine tpk_pos (tp_in hG ht_h1 (by decide)) hf_o83 (fun q84 eq84 => ?_)
  refine va_get (D := (dC, dI)) (ci := 5) (v := .int o83_x12) (C := RX5) (T := TX5) (N := 17) hx hb hts hfX5 hown hK hP q84 eq84 rfl 12 (by decide) (hts (.fieldLink RX5 93 "ColdShips$Ship" "landTons" "I") wa_266) (fun _ h9 => h9) rfl dX5_copyFrom_85 ?_
  refine tpk_pos (tp_in hG ht_h0 (by decide)) g82 (fun q85 eq85 => ?_)
  refine va_put (D := (dC, dI)) (ci := 5) (v := .int o83_x12) (ty := .int) (C := RX5) (T := TX5) (N := 17) hx hb hts hfX5 tyX5 tyX5_ok nmX5 hown hK hP hD hS q85 eq85 rfl 12 (by decide) (hts (.fieldLink RX5 93 "ColdShips$Ship" "landTons" "I") wa_266) (fun _ h9 => h9) rfl (tyX5_ok 12 (by decide)) rfl rfl (Nat.le_of_ble_eq_true rfl) dX5_copyFrom_88 (tp_k (.inr (5, [.ref (ρ h0 0), .int o17_x1, .int o35_x2, .int o41_x3, .int o47_x4, .int o53_x5, .int o59_x6, .ref (ρ h0 7), .ref (ρ h0 8), .ref (ρ h0 9), .int o71_x10, .int o77_x11, .int o83_x12, .ref (ρ h0 13), .int o65_x14, .ref (ρ h0 15), .ref (ρ h0 16)])) hD (tp_in hG ht_h0 (by decide)) eq85 (fun f86 H locs hP hD hS g88 k87 => ?_))
  have hT := hT.up ht_h0 g88 k87 ⟨_, _, _, _, _, _, _, _, _, _, rfl, (by first | decide | omega | (omega)), (by first | decide | omega | (omega)), (by first | decide | omega | (omega))⟩
  have hR := hR.up ht_h0 (by decide) k87
  refine lv_aload_n hx hb dX5_copyFrom_91 rfl (lv_at hl 1 rfl) ?_
  refine tpk_6 hT ht_h1 (fun o89_x1 o89_x2 o89_x3 o89_x4 o89_x5 o89_x6 o89_x10 o89_x11 o89_x12 o89_x14 hf_o89 ro89_0 ro89_1 ro89_2 => ?_)
  refine tpk_pos (tp_in hG ht_h1 (by decide)) hf_o89 (fun q90 eq90 => ?_)
  refine va_get (D := (dC, dI)) (ci := 5) (v := .ref (ρ h1 7)) (C := RX5) (T := TX5) (N := 17) hx hb hts hfX5 hown hK hP q90 eq90 rfl 7 (by decide) (hts (.fieldLink RX5 18 "ColdShips$Ship" "orderSorts" "[I") wa_97) (fun _ h9 => h9) rfl dX5_copyFrom_92 ?_
  refine lv_iconst (v := 0) hx hb dX5_copyFrom_95 (by decide) ?_
  refine lv_aload_n hx hb dX5_copyFrom_96 rfl (lv_at hl 0 rfl) ?_
  refine tpk_pos (tp_in hG ht_h0 (by decide)) g88 (fun q91 eq91 => ?_)
  refine va_get (D := (dC, dI)) (ci := 5) (v := .ref (ρ h0 7)) (C := RX5) (T := TX5) (N := 17) hx hb hts hfX5 hown hK hP q91 eq91 rfl 7 (by decide) (hts (.fieldLink RX5 18 "ColdShips$Ship" "orderSorts" "[I") wa_97) (fun _ h9 => h9) rfl dX5_copyFrom_97 ?_
  refine lv_iconst (v := 0) hx hb dX5_copyFrom_100 (by decide) ?_
  refine lv_bipush (v := 20) hx hb dX5_copyFrom_101 (by decide) ?_
  refine tpk_20 hT y11 y11n (fun g93 hf_o92 => ?_)
  refine tpk_20 hT y2 y2n (fun g95 hf_o94 => ?_)
  refine tpk_pos (tp_in hG y11 (by decide)) hf_o92 (fun q96 eq96 => ?_)
  refine tpk_pos (tp_in hG y2 (by decide)) hf_o94 (fun q97 eq97 => ?_)
  refine va_copyi hx hb (by rw [hml]; exact hl.1.symm) hown (hts (.methodLink RX5 77 arraycopyName) wa_464) (hts (.native arraycopyName) wa_465) (hts (.static arraycopyName) wa_466) (hts (.initialized "java/lang/System") wa_467) hK hP hD hS q96 q97 0 0 eq96 eq97 rfl rfl rfl (by decide) (by decide) (by decide) (by decide) (by decide) (fun _ _ => rfl) (Nat.le_of_ble_eq_true rfl) (Nat.le_of_ble_eq_true rfl) dX5_copyFrom_103 (tp_k (.inl (κ 0, 20, .inl (va_cpy g93 g95 (0 : Int32).toNatClampNeg (0 : Int32).toNatClampNeg (20 : Int32).toNatClampNeg))) hD (tp_in hG y2 (by decide)) eq97 (fun f98 H locs hP hD hS g100 k99 => ?_))
  have hT := hT.up y2 g100 k99 (tp_o20 y2n)
  have hR := hR.up y2 (by decide) k99
  generalize (va_cpy g93 g95 (0 : Int32).toNatClampNeg (0 : Int32).toNatClampNeg (20 : Int32).toNatClampNeg) = g101 at g100
  refine lv_aload_n hx hb dX5_copyFrom_106 rfl (lv_at hl 1 rfl) ?_
  have hf_102 : f98 h1 = .inr (5, [.ref (ρ h1 0), .int o89_x1, .int o89_x2, .int o89_x3, .int o89_x4, .int o89_x5, .int o89_x6, .ref (ρ h1 7), .ref (ρ h1 8), .ref (ρ h1 9), .int o89_x10, .int o89_x11, .int o89_x12, .ref (ρ h1 13), .int o89_x14, .ref (ρ h1 15), .ref (ρ h1 16)]) := (k99 _ (tp_ne ht_h1 y2 (by decide))).trans hf_o89
  refine tpk_pos (tp_in hG ht_h1 (by decide)) hf_102 (fun q103 eq103 => ?_)
  refine va_get (D := (dC, dI)) (ci := 5) (v := .ref (ρ h1 8)) (C := RX5) (T := TX5) (N := 17) hx hb hts hfX5 hown hK hP q103 eq103 rfl 8 (by decide) (hts (.fieldLink RX5 22 "ColdShips$Ship" "orderWhats" "[I") wa_98) (fun _ h9 => h9) rfl dX5_copyFrom_107 ?_
  refine lv_iconst (v := 0) hx hb dX5_copyFrom_110 (by decide) ?_
  refine lv_aload_n hx hb dX5_copyFrom_111 rfl (lv_at hl 0 rfl) ?_
  have hf_104 : f98 h0 = .inr (5, [.ref (ρ h0 0), .int o17_x1, .int o35_x2, .int o41_x3, .int o47_x4, .int o53_x5, .int o59_x6, .ref (ρ h0 7), .ref (ρ h0 8), .ref (ρ h0 9), .int o71_x10, .int o77_x11, .int o83_x12, .ref (ρ h0 13), .int o65_x14, .ref (ρ h0 15), .ref (ρ h0 16)]) := (k99 _ (tp_ne ht_h0 y2 (by decide))).trans g88
  refine tpk_pos (tp_in hG ht_h0 (by decide)) hf_104 (fun q105 eq105 => ?_)
  refine va_get (D := (dC, dI)) (ci := 5) (v := .ref (ρ h0 8)) (C := RX5) (T := TX5) (N := 17) hx hb hts hfX5 hown hK hP q105 eq105 rfl 8 (by decide) (hts (.fieldLink RX5 22 "ColdShips$Ship" "orderWhats" "[I") wa_98) (fun _ h9 => h9) rfl dX5_copyFrom_112 ?_
  refine lv_iconst (v := 0) hx hb dX5_copyFrom_115 (by decide) ?_
  refine lv_bipush (v := 20) hx hb dX5_copyFrom_116 (by decide) ?_
  refine tpk_20 hT y12 y12n (fun g107 hf_o106 => ?_)
  refine tpk_20 hT y3 y3n (fun g109 hf_o108 => ?_)
  refine tpk_pos (tp_in hG y12 (by decide)) hf_o106 (fun q110 eq110 => ?_)
  refine tpk_pos (tp_in hG y3 (by decide)) hf_o108 (fun q111 eq111 => ?_)
  refine va_copyi hx hb (by rw [hml]; exact hl.1.symm) hown (hts (.methodLink RX5 77 arraycopyName) wa_464) (hts (.native arraycopyName) wa_465) (hts (.static arraycopyName) wa_466) (hts (.initialized "java/lang/System") wa_467) hK hP hD hS q110 q111 0 0 eq110 eq111 rfl rfl rfl (by decide) (by decide) (by decide) (by decide) (by decide) (fun _ _ => rfl) (Nat.le_of_ble_eq_true rfl) (Nat.le_of_ble_eq_true rfl) dX5_copyFrom_118 (tp_k (.inl (κ 0, 20, .inl (va_cpy g107 g109 (0 : Int32).toNatClampNeg (0 : Int32).toNatClampNeg (20 : Int32).toNatClampNeg))) hD (tp_in hG y3 (by decide)) eq111 (fun f112 H locs hP hD hS g114 k113 => ?_))
  have hT := hT.up y3 g114 k113 (tp_o20 y3n)
  have hR := hR.up y3 (by decide) k113
  generalize (va_cpy g107 g109 (0 : Int32).toNatClampNeg (0 : Int32).toNatClampNeg (20 : Int32).toNatClampNeg) = g115 at g114
  refine lv_aload_n hx hb dX5_copyFrom_121 rfl (lv_at hl 1 rfl) ?_
  have hf_116 : f112 h1 = .inr (5, [.ref (ρ h1 0), .int o89_x1, .int o89_x2, .int o89_x3, .int o89_x4, .int o89_x5, .int o89_x6, .ref (ρ h1 7), .ref (ρ h1 8), .ref (ρ h1 9), .int o89_x10, .int o89_x11, .int o89_x12, .ref (ρ h1 13), .int o89_x14, .ref (ρ h1 15), .ref (ρ h1 16)]) := (k113 _ (tp_ne ht_h1 y3 (by decide))).trans hf_102
  refine tpk_pos (tp_in hG ht_h1 (by decide)) hf_116 (fun q117 eq117 => ?_)
  refine va_get (D := (dC, dI)) (ci := 5) (v := .ref (ρ h1 9)) (C := RX5) (T := TX5) (N := 17) hx hb hts hfX5 hown hK hP q117 eq117 rfl 9 (by decide) (hts (.fieldLink RX5 25 "ColdShips$Ship" "book" "[J") wa_99) (fun _ h9 => h9) rfl dX5_copyFrom_122 ?_
  refine lv_iconst (v := 0) hx hb dX5_copyFrom_125 (by decide) ?_
  refine lv_aload_n hx hb dX5_copyFrom_126 rfl (lv_at hl 0 rfl) ?_
  have hf_118 : f112 h0 = .inr (5, [.ref (ρ h0 0), .int o17_x1, .int o35_x2, .int o41_x3, .int o47_x4, .int o53_x5, .int o59_x6, .ref (ρ h0 7), .ref (ρ h0 8), .ref (ρ h0 9), .int o71_x10, .int o77_x11, .int o83_x12, .ref (ρ h0 13), .int o65_x14, .ref (ρ h0 15), .ref (ρ h0 16)]) := (k113 _ (tp_ne ht_h0 y3 (by decide))).trans hf_104
  refine tpk_pos (tp_in hG ht_h0 (by decide)) hf_118 (fun q119 eq119 => ?_)
  refine va_get (D := (dC, dI)) (ci := 5) (v := .ref (ρ h0 9)) (C := RX5) (T := TX5) (N := 17) hx hb hts hfX5 hown hK hP q119 eq119 rfl 9 (by decide) (hts (.fieldLink RX5 25 "ColdShips$Ship" "book" "[J") wa_99) (fun _ h9 => h9) rfl dX5_copyFrom_127 ?_
  refine lv_iconst (v := 0) hx hb dX5_copyFrom_130 (by decide) ?_
  refine lv_iconst (v := 4) hx hb dX5_copyFrom_131 (by decide) ?_
  refine tpk_21 hT y13 y13n (fun g121 hf_o120 => ?_)
  refine tpk_21 hT y4 y4n (fun g123 hf_o122 => ?_)
  refine tpk_pos (tp_in hG y13 (by decide)) hf_o120 (fun q124 eq124 => ?_)
  refine tpk_pos (tp_in hG y4 (by decide)) hf_o122 (fun q125 eq125 => ?_)
  refine va_copyl hx hb (by rw [hml]; exact hl.1.symm) hown (hts (.methodLink RX5 77 arraycopyName) wa_464) (hts (.native arraycopyName) wa_465) (hts (.static arraycopyName) wa_466) (hts (.initialized "java/lang/System") wa_467) hK hP hD hS q124 q125 1 1 eq124 eq125 rfl rfl rfl (by decide) (by decide) (by decide) (by decide) (by decide) (fun _ _ => rfl) (Nat.le_of_ble_eq_true rfl) (Nat.le_of_ble_eq_true rfl) dX5_copyFrom_132 (tp_k (.inl (κ 1, 4, .inr (.inl (va_cpy g121 g123 (0 : Int32).toNatClampNeg (0 : Int32).toNatClampNeg (4 : Int32).toNatClampNeg)))) hD (tp_in hG y4 (by decide)) eq125 (fun f126 H locs hP hD hS g128 k127 => ?_))
  have hT := hT.up y4 g128 k127 (tp_o21 y4n)
  have hR := hR.up y4 (by decide) k127
  generalize (va_cpy g121 g123 (0 : Int32).toNatClampNeg (0 : Int32).toNatClampNeg (4 : Int32).toNatClampNeg) = g129 at g128
  refine lv_aload_n hx hb dX5_copyFrom_135 rfl (lv_at hl 1 rfl) ?_
  have hf_130 : f126 h1 = .inr (5, [.ref (ρ h1 0), .int o89_x1, .int o89_x2, .int o89_x3, .int o89_x4, .int o89_x5, .int o89_x6, .ref (ρ h1 7), .ref (ρ h1 8), .ref (ρ h1 9), .int o89_x10, .int o89_x11, .int o89_x12, .ref (ρ h1 13), .int o89_x14, .ref (ρ h1 15), .ref (ρ h1 16)]) := (k127 _ (tp_ne ht_h1 y4 (by decide))).trans hf_116
  refine tpk_pos (tp_in hG ht_h1 (by decide)) hf_130 (fun q131 eq131 => ?_)
  refine va_get (D := (dC, dI)) (ci := 5) (v := .ref (ρ h1 13)) (C := RX5) (T := TX5) (N := 17) hx hb hts hfX5 hown hK hP q131 eq131 rfl 13 (by decide) (hts (.fieldLink RX5 29 "ColdShips$Ship" "landParts" "[I") wa_100) (fun _ h9 => h9) rfl dX5_copyFrom_136 ?_
  refine lv_iconst (v := 0) hx hb dX5_copyFrom_139 (by decide) ?_
  refine lv_aload_n hx hb dX5_copyFrom_140 rfl (lv_at hl 0 rfl) ?_
  have hf_132 : f126 h0 = .inr (5, [.ref (ρ h0 0), .int o17_x1, .int o35_x2, .int o41_x3, .int o47_x4, .int o53_x5, .int o59_x6, .ref (ρ h0 7), .ref (ρ h0 8), .ref (ρ h0 9), .int o71_x10, .int o77_x11, .int o83_x12, .ref (ρ h0 13), .int o65_x14, .ref (ρ h0 15), .ref (ρ h0 16)]) := (k127 _ (tp_ne ht_h0 y4 (by decide))).trans hf_118
  refine tpk_pos (tp_in hG ht_h0 (by decide)) hf_132 (fun q133 eq133 => ?_)
  refine va_get (D := (dC, dI)) (ci := 5) (v := .ref (ρ h0 13)) (C := RX5) (T := TX5) (N := 17) hx hb hts hfX5 hown hK hP q133 eq133 rfl 13 (by decide) (hts (.fieldLink RX5 29 "ColdShips$Ship" "landParts" "[I") wa_100) (fun _ h9 => h9) rfl dX5_copyFrom_141 ?_
  refine lv_iconst (v := 0) hx hb dX5_copyFrom_144 (by decide) ?_
  refine lv_bipush (v := 6) hx hb dX5_copyFrom_145 (by decide) ?_
  refine tpk_20 hT y14 y14n (fun g135 hf_o134 => ?_)
  refine tpk_20 hT y5 y5n (fun g137 hf_o136 => ?_)
  refine tpk_pos (tp_in hG y14 (by decide)) hf_o134 (fun q138 eq138 => ?_)
  refine tpk_pos (tp_in hG y5 (by decide)) hf_o136 (fun q139 eq139 => ?_)
  refine va_copyi hx hb (by rw [hml]; exact hl.1.symm) hown (hts (.methodLink RX5 77 arraycopyName) wa_464) (hts (.native arraycopyName) wa_465) (hts (.static arraycopyName) wa_466) (hts (.initialized "java/lang/System") wa_467) hK hP hD hS q138 q139 0 0 eq138 eq139 rfl rfl rfl (by decide) (by decide) (by decide) (by decide) (by decide) (fun _ _ => rfl) (Nat.le_of_ble_eq_true rfl) (Nat.le_of_ble_eq_true rfl) dX5_copyFrom_147 (tp_k (.inl (κ 0, 6, .inl (va_cpy g135 g137 (0 : Int32).toNatClampNeg (0 : Int32).toNatClampNeg (6 : Int32).toNatClampNeg))) hD (tp_in hG y5 (by decide)) eq139 (fun f140 H locs hP hD hS g142 k141 => ?_))
  have hT := hT.up y5 g142 k141 (tp_o20 y5n)
  have hR := hR.up y5 (by decide) k141
  generalize (va_cpy g135 g137 (0 : Int32).toNatClampNeg (0 : Int32).toNatClampNeg (6 : Int32).toNatClampNeg) = g143 at g142
  refine lv_aload_n hx hb dX5_copyFrom_150 rfl (lv_at hl 1 rfl) ?_
  have hf_144 : f140 h1 = .inr (5, [.ref (ρ h1 0), .int o89_x1, .int o89_x2, .int o89_x3, .int o89_x4, .int o89_x5, .int o89_x6, .ref (ρ h1 7), .ref (ρ h1 8), .ref (ρ h1 9), .int o89_x10, .int o89_x11, .int o89_x12, .ref (ρ h1 13), .int o89_x14, .ref (ρ h1 15), .ref (ρ h1 16)]) := (k141 _ (tp_ne ht_h1 y5 (by decide))).trans hf_130
  refine tpk_pos (tp_in hG ht_h1 (by decide)) hf_144 (fun q145 eq145 => ?_)
  refine va_get (D := (dC, dI)) (ci := 5) (v := .ref (ρ h1 15)) (C := RX5) (T := TX5) (N := 17) hx hb hts hfX5 hown hK hP q145 eq145 rfl 15 (by decide) (hts (.fieldLink RX5 32 "ColdShips$Ship" "gaugeCentimetres" "[I") wa_101) (fun _ h9 => h9) rfl dX5_copyFrom_151 ?_
  refine lv_iconst (v := 0) hx hb dX5_copyFrom_154 (by decide) ?_
  refine lv_aload_n hx hb dX5_copyFrom_155 rfl (lv_at hl 0 rfl) ?_
  have hf_146 : f140 h0 = .inr (5, [.ref (ρ h0 0), .int o17_x1, .int o35_x2, .int o41_x3, .int o47_x4, .int o53_x5, .int o59_x6, .ref (ρ h0 7), .ref (ρ h0 8), .ref (ρ h0 9), .int o71_x10, .int o77_x11, .int o83_x12, .ref (ρ h0 13), .int o65_x14, .ref (ρ h0 15), .ref (ρ h0 16)]) := (k141 _ (tp_ne ht_h0 y5 (by decide))).trans hf_132
  refine tpk_pos (tp_in hG ht_h0 (by decide)) hf_146 (fun q147 eq147 => ?_)
  refine va_get (D := (dC, dI)) (ci := 5) (v := .ref (ρ h0 15)) (C := RX5) (T := TX5) (N := 17) hx hb hts hfX5 hown hK hP q147 eq147 rfl 15 (by decide) (hts (.fieldLink RX5 32 "ColdShips$Ship" "gaugeCentimetres" "[I") wa_101) (fun _ h9 => h9) rfl dX5_copyFrom_156 ?_
  refine lv_iconst (v := 0) hx hb dX5_copyFrom_159 (by decide) ?_
  refine lv_iconst (v := 4) hx hb dX5_copyFrom_160 (by decide) ?_
  refine tpk_20 hT y15 y15n (fun g149 hf_o148 => ?_)
  refine tpk_20 hT y6 y6n (fun g151 hf_o150 => ?_)
  refine tpk_pos (tp_in hG y15 (by decide)) hf_o148 (fun q152 eq152 => ?_)
  refine tpk_pos (tp_in hG y6 (by decide)) hf_o150 (fun q153 eq153 => ?_)
  refine va_copyi hx hb (by rw [hml]; exact hl.1.symm) hown (hts (.methodLink RX5 77 arraycopyName) wa_464) (hts (.native arraycopyName) wa_465) (hts (.static arraycopyName) wa_466) (hts (.initialized "java/lang/System") wa_467) hK hP hD hS q152 q153 0 0 eq152 eq153 rfl rfl rfl (by decide) (by decide) (by decide) (by decide) (by decide) (fun _ _ => rfl) (Nat.le_of_ble_eq_true rfl) (Nat.le_of_ble_eq_true rfl) dX5_copyFrom_161 (tp_k (.inl (κ 0, 4, .inl (va_cpy g149 g151 (0 : Int32).toNatClampNeg (0 : Int32).toNatClampNeg (4 : Int32).toNatClampNeg))) hD (tp_in hG y6 (by decide)) eq153 (fun f154 H locs hP hD hS g156 k155 => ?_))
  have hT := hT.up y6 g156 k155 (tp_o20 y6n)
  have hR := hR.up y6 (by decide) k155
  generalize (va_cpy g149 g151 (0 : Int32).toNatClampNeg (0 : Int32).toNatClampNeg (4 : Int32).toNatClampNeg) = g157 at g156
  refine lv_aload_n hx hb dX5_copyFrom_164 rfl (lv_at hl 1 rfl) ?_
  have hf_158 : f154 h1 = .inr (5, [.ref (ρ h1 0), .int o89_x1, .int o89_x2, .int o89_x3, .int o89_x4, .int o89_x5, .int o89_x6, .ref (ρ h1 7), .ref (ρ h1 8), .ref (ρ h1 9), .int o89_x10, .int o89_x11, .int o89_x12, .ref (ρ h1 13), .int o89_x14, .ref (ρ h1 15), .ref (ρ h1 16)]) := (k155 _ (tp_ne ht_h1 y6 (by decide))).trans hf_144
  refine tpk_pos (tp_in hG ht_h1 (by decide)) hf_158 (fun q159 eq159 => ?_)
  refine va_get (D := (dC, dI)) (ci := 5) (v := .ref (ρ h1 16)) (C := RX5) (T := TX5) (N := 17) hx hb hts hfX5 hown hK hP q159 eq159 rfl 16 (by decide) (hts (.fieldLink RX5 35 "ColdShips$Ship" "gaugeTons" "[I") wa_102) (fun _ h9 => h9) rfl dX5_copyFrom_165 ?_
  refine lv_iconst (v := 0) hx hb dX5_copyFrom_168 (by decide) ?_
  refine lv_aload_n hx hb dX5_copyFrom_169 rfl (lv_at hl 0 rfl) ?_
  have hf_160 : f154 h0 = .inr (5, [.ref (ρ h0 0), .int o17_x1, .int o35_x2, .int o41_x3, .int o47_x4, .int o53_x5, .int o59_x6, .ref (ρ h0 7), .ref (ρ h0 8), .ref (ρ h0 9), .int o71_x10, .int o77_x11, .int o83_x12, .ref (ρ h0 13), .int o65_x14, .ref (ρ h0 15), .ref (ρ h0 16)]) := (k155 _ (tp_ne ht_h0 y6 (by decide))).trans hf_146
  refine tpk_pos (tp_in hG ht_h0 (by decide)) hf_160 (fun q161 eq161 => ?_)
  refine va_get (D := (dC, dI)) (ci := 5) (v := .ref (ρ h0 16)) (C := RX5) (T := TX5) (N := 17) hx hb hts hfX5 hown hK hP q161 eq161 rfl 16 (by decide) (hts (.fieldLink RX5 35 "ColdShips$Ship" "gaugeTons" "[I") wa_102) (fun _ h9 => h9) rfl dX5_copyFrom_170 ?_
  refine lv_iconst (v := 0) hx hb dX5_copyFrom_173 (by decide) ?_
  refine lv_iconst (v := 4) hx hb dX5_copyFrom_174 (by decide) ?_
  refine tpk_20 hT y16 y16n (fun g163 hf_o162 => ?_)
  refine tpk_20 hT y7 y7n (fun g165 hf_o164 => ?_)
  refine tpk_pos (tp_in hG y16 (by decide)) hf_o162 (fun q166 eq166 => ?_)
  refine tpk_pos (tp_in hG y7 (by decide)) hf_o164 (fun q167 eq167 => ?_)
  refine va_copyi hx hb (by rw [hml]; exact hl.1.symm) hown (hts (.methodLink RX5 77 arraycopyName) wa_464) (hts (.native arraycopyName) wa_465) (hts (.static arraycopyName) wa_466) (hts (.initialized "java/lang/System") wa_467) hK hP hD hS q166 q167 0 0 eq166 eq167 rfl rfl rfl (by decide) (by decide) (by decide) (by decide) (by decide) (fun _ _ => rfl) (Nat.le_of_ble_eq_true rfl) (Nat.le_of_ble_eq_true rfl) dX5_copyFrom_175 (tp_k (.inl (κ 0, 4, .inl (va_cpy g163 g165 (0 : Int32).toNatClampNeg (0 : Int32).toNatClampNeg (4 : Int32).toNatClampNeg))) hD (tp_in hG y7 (by decide)) eq167 (fun f168 H locs hP hD hS g170 k169 => ?_))
  have hT := hT.up y7 g170 k169 (tp_o20 y7n)
  have hR := hR.up y7 (by decide) k169
  generalize (va_cpy g163 g165 (0 : Int32).toNatClampNeg (0 : Int32).toNatClampNeg (4 : Int32).toNatClampNeg) = g171 at g170
  exact W.vret hx hb hr (fun t ht hW => ⟨⟨f168, rfl, ⟨hT, hR, trivial⟩, by rw [ht]; exact hP, va_K.moved hW.alike hK, hD⟩, hS.F ht⟩) hS.2.2 dX5_copyFrom_178
