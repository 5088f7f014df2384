section
set_option maxHeartbeats 4000000 in
set_option maxRecDepth 100000 in
theorem t_X11_feed (l : Launch) (dC : Nat → ClassId) (dI : Nat → Nat → Nat) (sz : Nat) (Ω : Nat → Nat → (Nat → Nat) → va_E → Prop) (κ : Nat → ClassId) (τ ν : Nat → Nat) (ρ : Nat → Nat → Nat) (L : List Nat) (f : Nat → va_E) (hG : tp_G τ ν ρ L) (hT : tp_T Ω κ τ ν ρ f) (h0 : Nat) (v : Int32) (u : Int32) (a : Int32) (b : Int32) (a5 : Int32) (ht_h0 : τ h0 = 12) : Met l yX11_feed wqX11_feed ({ frames := 3, cells := 0, slots := 0, locals := 800 }) (va_Pc [.ref h0, .int v, .int u, .int a, .int b, .int a5] (pz_B dC dI (tp_K κ) (va_pl L f) sz)) (va_Qi (fun (r : Int32) (f1 : Nat → va_E) => tp_T Ω κ τ ν ρ f1 ∧ tp_F τ [3, 22] f f1 ∧ True ∧ ((((380 < (tp_fld (f (ρ h0 3)) 1)) → r.toInt = -1) ∧ (¬ (380 < (tp_fld (f (ρ h0 3)) 1)) → r.toInt = (tp_fld (f (ρ h0 3)) 1) + 20))) ∧ ((((380 < (tp_fld (f (ρ h0 3)) 1)) → (tp_fld (f1 (ρ h0 3)) 1) = (tp_fld (f (ρ h0 3)) 1)) ∧ (¬ (380 < (tp_fld (f (ρ h0 3)) 1)) → (tp_fld (f1 (ρ h0 3)) 1) = (tp_fld (f (ρ h0 3)) 1) + 20)))) (fun (f1 : Nat → va_E) (t : State) => pz_E dC dI (tp_K κ) (va_A (va_pl L f) sz) (va_pl L f1) t) (va_A (va_pl L f) sz)) 0 0 (va_A (va_pl L f) sz) := by
  refine Met.ofW (cc := cX11_feed) (maxL := 6) (ret := some .int) (by decide) rfl ?_
  intro p e s m args below meth c s₁ B hml hv
  obtain ⟨rfl, hsz, hP, hK, hD0, hN⟩ := hv
  have hx := B.exec
  have hb := B.bytes
  have hr := B.returns
  have hts := fun (w : Cond) (h : w ∈ WALL) => atoms_spec (ws := wqX11_feed) B.pre w (List.mem_cons_of_mem _ h)
  have hown : s.vm.findClass RX11 = some m.cls := findClass_of_methodNamed B.named
  have hlocks := B.notSynchronized
  subst hsz
  have hD := hD0.self (sz := s.heap.size)
  generalize hAe : va_A (va_pl L f) s.heap.size = A at hD ⊢
  have hA : ∀ q : Nat, s.heap.size ≤ q → A q := fun q h => by rw [← hAe]; exact Or.inr h
  have hS : va_S A s.heap s.heap [] := va_S.rf
  have hR : tp_F τ [3, 22] f f := tp_F.rf
  have hl := lv_entry ([.ref h0, .int v, .int u, .int a, .int b, .int a5]) (n := 6) (Nat.le_of_ble_eq_true rfl)
  rw [lg_entry_eq]
  generalize (lg_sl ([.ref h0, .int v, .int u, .int a, .int b, .int a5]) ++ List.replicate (6 - (lg_sl ([.ref h0, .int v, .int u, .int a, .int b, .int a5])).length) Slot.unset).toArray = ls at hl ⊢
  have hl : lv_has ls 6 [(0, .ref h0), (1, .int v), (2, .int u), (3, .int a), (4, .int b), (5, .int a5)] := hl
  refine tgk_12 hG ht_h0 (fun y1 y1l y2 y3 y4 y5 y6 y7a y7b y7c => ?_)
  refine tgk_3 hG y4 (fun y8 y8n y9 y9n y10 y10n => ?_)
  refine tpk_3 hT y4 (fun o11_x1 o11_x2 o11_x3 o11_x4 o11_x5 o11_x6 o11_x8 o11_x10 o11_x11 o11_x12 o11_x13 o11_x14 o11_x15 hf_o11 ro11_0 ro11_1 ro11_2 ro11_3 ro11_4 ro11_5 ro11_6 => ?_)
  refine lv_aload_n hx hb dX11_feed_0 rfl (lv_at hl 0 rfl) ?_
  refine tpk_12 hT ht_h0 (fun o12_x6 hf_o12 => ?_)
  refine tpk_pos (tp_in hG ht_h0 (by decide)) hf_o12 (fun q13 eq13 => ?_)
  refine va_get (D := (dC, dI)) (ci := 11) (v := .ref (ρ h0 3)) (C := RX11) (T := TX11) (N := 7) hx hb hts hfX11 hown hK hP q13 eq13 rfl 3 (by decide) (hts (.fieldLink RX11 32 "ColdShips" "reader" "LColdShips$Reader;") wa_24) (fun _ h9 => h9) rfl dX11_feed_1 ?_
  refine tpk_pos (tp_in hG y4 (by decide)) hf_o11 (fun q14 eq14 => ?_)
  have ro11_0 := tp_hu ro11_0; have ro11_1 := tp_hu ro11_1; have ro11_6 := tp_hu ro11_6; have ro11_2 := tp_hu ro11_2; have ro11_3 := tp_hu ro11_3; have ro11_4 := tp_hu ro11_4; have ro11_5 := tp_hu ro11_5
  refine pz_calli (va_runV (As := []) (rest := []) ⟨hx, hb, hml, hown, hts⟩ (t_X2_hasRoom l dC dI _ Ω κ τ ν ρ L f hG hT (ρ h0 3) y4 o11_x1 o11_x2 o11_x3 o11_x4 o11_x5 o11_x6 o11_x8 o11_x10 o11_x11 o11_x12 o11_x13 o11_x14 o11_x15 hf_o11) (cwV 0 hts gX11_feed_X2_hasRoom rfl rfl rfl ⟨rfl, pd_X2_hasRoom⟩ ⟨Nat.le_of_ble_eq_true rfl, Nat.le_of_ble_eq_true rfl⟩) ⟨pz_blind, va_recv hK hP (ci := 2) (q0 := q14) rfl eq14, pz_pre hP hK hD hN⟩ rfl rfl hl.1 rfl (lv_room (Nat.le_of_ble_eq_true rfl)) dX11_feed_4 ⟨Nat.le_of_ble_eq_true rfl, Nat.le_of_ble_eq_true rfl⟩) (fun r15 hw16 => ?_)
  obtain ⟨hw16r, hw16p⟩ := hw16
  refine lv_if_ne (tgt := 12) hx hb dX11_feed_7 (by decide) (fun c17 => ?_) (fun c17 => ?_)
  · have ic17 : r15.toInt ≠ 0 := zi_ne rfl rfl c17
    have p18 : o11_x1.toInt + 20 ≤ 400 := (tp_cond.yes hw16p) (by omega)
    clear hw16r ic17
    refine lv_aload_n hx hb dX11_feed_12 rfl (lv_at hl 0 rfl) ?_
    refine va_get (D := (dC, dI)) (ci := 11) (v := .ref (ρ h0 3)) (C := RX11) (T := TX11) (N := 7) hx hb hts hfX11 hown hK hP q13 eq13 rfl 3 (by decide) (hts (.fieldLink RX11 32 "ColdShips" "reader" "LColdShips$Reader;") wa_24) (fun _ h9 => h9) rfl dX11_feed_13 ?_
    refine lv_iload_n hx hb dX11_feed_16 rfl (lv_at hl 1 rfl) ?_
    have hFc := tp_fr hD hS hA
    refine va_callv (va_runV (As := [.int v]) (rest := []) ⟨hx, hb, hml, hown, hts⟩ (t_X2_addFour l dC dI _ Ω κ τ ν ρ L f hG hT (ρ h0 3) v y4 o11_x1 o11_x2 o11_x3 o11_x4 o11_x5 o11_x6 o11_x8 o11_x10 o11_x11 o11_x12 o11_x13 o11_x14 o11_x15 hf_o11 (by omega)) (cwV 1 hts gX11_feed_X2_addFour rfl rfl rfl ⟨rfl, pd_X2_addFour⟩ ⟨Nat.le_of_ble_eq_true rfl, Nat.le_of_ble_eq_true rfl⟩) ⟨pz_blind, va_recv hK hP (ci := 2) (q0 := q14) rfl eq14, pz_pre hP hK hD hN⟩ rfl rfl hl.1 rfl (lv_room (Nat.le_of_ble_eq_true rfl)) dX11_feed_17 ⟨Nat.le_of_ble_eq_true rfl, Nat.le_of_ble_eq_true rfl⟩) hS (fun q _ h => hFc q h) hFc (fun f21 t H1 locs ht hvm hw20 hB hz1 hk1 hS => ?_)
    refine tn_3 hw20 (fun hT hF22 hw20p => ?_); clear hw20
    have hR := hR.then hF22 (by decide)
    have hP := hB.1; rw [ht] at hP; have hD := tp_ad f21 hD; clear hB hFc hz1 hk1; subst ht; generalize t.heap = H at hP hS ⊢
    refine tpk_3 hT y4 (fun o23_x1 o23_x2 o23_x3 o23_x4 o23_x5 o23_x6 o23_x8 o23_x10 o23_x11 o23_x12 o23_x13 o23_x14 o23_x15 hf_o23 ro23_0 ro23_1 ro23_2 ro23_3 ro23_4 ro23_5 ro23_6 => ?_)
    have ro23_0 := tp_hu ro23_0
    have tv24 : tp_fld (f21 (ρ h0 3)) 1 = o23_x1.toInt := by rw [hf_o23]; rfl
    have pl25 : (o23_x1.toInt = o11_x1.toInt + 4) := by have q9 := hw20p; rw [tv24] at q9; exact q9
    refine lv_aload_n hx hb dX11_feed_20 rfl (lv_at hl 0 rfl) ?_
    have hf_26 : f21 h0 = .inr (11, [.ref (ρ h0 0), .ref (ρ h0 1), .ref (ρ h0 2), .ref (ρ h0 3), .ref (ρ h0 4), .ref (ρ h0 5), .int o12_x6]) := (hF22 _ (by rw [ht_h0]; decide)).trans hf_o12
    refine tpk_pos (tp_in hG ht_h0 (by decide)) hf_26 (fun q27 eq27 => ?_)
    refine va_get (D := (dC, dI)) (ci := 11) (v := .ref (ρ h0 3)) (C := RX11) (T := TX11) (N := 7) hx hb hts hfX11 hown hK hP q27 eq27 rfl 3 (by decide) (hts (.fieldLink RX11 32 "ColdShips" "reader" "LColdShips$Reader;") wa_24) (fun _ h9 => h9) rfl dX11_feed_21 ?_
    refine lv_iload_n hx hb dX11_feed_24 rfl (lv_at hl 2 rfl) ?_
    refine tpk_pos (tp_in hG y4 (by decide)) hf_o23 (fun q28 eq28 => ?_)
    have hFc := tp_fr hD hS hA
    have ro23_1 := tp_hu ro23_1; have ro23_6 := tp_hu ro23_6; have ro23_2 := tp_hu ro23_2; have ro23_3 := tp_hu ro23_3; have ro23_4 := tp_hu ro23_4; have ro23_5 := tp_hu ro23_5
    refine va_callv (va_runV (As := [.int u]) (rest := []) ⟨hx, hb, hml, hown, hts⟩ (t_X2_addFour l dC dI _ Ω κ τ ν ρ L f21 hG hT (ρ h0 3) u y4 o23_x1 o23_x2 o23_x3 o23_x4 o23_x5 o23_x6 o23_x8 o23_x10 o23_x11 o23_x12 o23_x13 o23_x14 o23_x15 hf_o23 (by omega)) (cwV 1 hts gX11_feed_X2_addFour rfl rfl rfl ⟨rfl, pd_X2_addFour⟩ ⟨Nat.le_of_ble_eq_true rfl, Nat.le_of_ble_eq_true rfl⟩) ⟨pz_blind, va_recv hK hP (ci := 2) (q0 := q28) rfl eq28, pz_pre hP hK hD hN⟩ rfl rfl hl.1 rfl (lv_room (Nat.le_of_ble_eq_true rfl)) dX11_feed_25 ⟨Nat.le_of_ble_eq_true rfl, Nat.le_of_ble_eq_true rfl⟩) hS (fun q _ h => hFc q h) hFc (fun f31 t H1 locs ht hvm hw30 hB hz1 hk1 hS => ?_)
    refine tn_3 hw30 (fun hT hF32 hw30p => ?_); clear hw30
    have hR := hR.then hF32 (by decide)
    have hP := hB.1; rw [ht] at hP; have hD := tp_ad f31 hD; clear hB hFc hz1 hk1; subst ht; generalize t.heap = H at hP hS ⊢
    refine tpk_3 hT y4 (fun o33_x1 o33_x2 o33_x3 o33_x4 o33_x5 o33_x6 o33_x8 o33_x10 o33_x11 o33_x12 o33_x13 o33_x14 o33_x15 hf_o33 ro33_0 ro33_1 ro33_2 ro33_3 ro33_4 ro33_5 ro33_6 => ?_)
    have ro33_0 := tp_hu ro33_0
    have tv34 : tp_fld (f31 (ρ h0 3)) 1 = o33_x1.toInt := by rw [hf_o33]; rfl
    have pl35 : (o33_x1.toInt = o23_x1.toInt + 4) := by have q9 := hw30p; rw [tv34] at q9; exact q9
    refine lv_aload_n hx hb dX11_feed_28 rfl (lv_at hl 0 rfl) ?_
    have hf_36 : f31 h0 = .inr (11, [.ref (ρ h0 0), .ref (ρ h0 1), .ref (ρ h0 2), .ref (ρ h0 3), .ref (ρ h0 4), .ref (ρ h0 5), .int o12_x6]) := (hF32 _ (by rw [ht_h0]; decide)).trans hf_26
    refine tpk_pos (tp_in hG ht_h0 (by decide)) hf_36 (fun q37 eq37 => ?_)
    refine va_get (D := (dC, dI)) (ci := 11) (v := .ref (ρ h0 3)) (C := RX11) (T := TX11) (N := 7) hx hb hts hfX11 hown hK hP q37 eq37 rfl 3 (by decide) (hts (.fieldLink RX11 32 "ColdShips" "reader" "LColdShips$Reader;") wa_24) (fun _ h9 => h9) rfl dX11_feed_29 ?_
    refine lv_iload_n hx hb dX11_feed_32 rfl (lv_at hl 3 rfl) ?_
    refine tpk_pos (tp_in hG y4 (by decide)) hf_o33 (fun q38 eq38 => ?_)
    have hFc := tp_fr hD hS hA
    have ro33_1 := tp_hu ro33_1; have ro33_6 := tp_hu ro33_6; have ro33_2 := tp_hu ro33_2; have ro33_3 := tp_hu ro33_3; have ro33_4 := tp_hu ro33_4; have ro33_5 := tp_hu ro33_5
    refine va_callv (va_runV (As := [.int a]) (rest := []) ⟨hx, hb, hml, hown, hts⟩ (t_X2_addFour l dC dI _ Ω κ τ ν ρ L f31 hG hT (ρ h0 3) a y4 o33_x1 o33_x2 o33_x3 o33_x4 o33_x5 o33_x6 o33_x8 o33_x10 o33_x11 o33_x12 o33_x13 o33_x14 o33_x15 hf_o33 (by omega)) (cwV 1 hts gX11_feed_X2_addFour rfl rfl rfl ⟨rfl, pd_X2_addFour⟩ ⟨Nat.le_of_ble_eq_true rfl, Nat.le_of_ble_eq_true rfl⟩) ⟨pz_blind, va_recv hK hP (ci := 2) (q0 := q38) rfl eq38, pz_pre hP hK hD hN⟩ rfl rfl hl.1 rfl (lv_room (Nat.le_of_ble_eq_true rfl)) dX11_feed_33 ⟨Nat.le_of_ble_eq_true rfl, Nat.le_of_ble_eq_true rfl⟩) hS (fun q _ h => hFc q h) hFc (fun f41 t H1 locs ht hvm hw40 hB hz1 hk1 hS => ?_)
    refine tn_3 hw40 (fun hT hF42 hw40p => ?_); clear hw40
    have hR := hR.then hF42 (by decide)
    have hP := hB.1; rw [ht] at hP; have hD := tp_ad f41 hD; clear hB hFc hz1 hk1; subst ht; generalize t.heap = H at hP hS ⊢
    refine tpk_3 hT y4 (fun o43_x1 o43_x2 o43_x3 o43_x4 o43_x5 o43_x6 o43_x8 o43_x10 o43_x11 o43_x12 o43_x13 o43_x14 o43_x15 hf_o43 ro43_0 ro43_1 ro43_2 ro43_3 ro43_4 ro43_5 ro43_6 => ?_)
    have ro43_0 := tp_hu ro43_0
    have tv44 : tp_fld (f41 (ρ h0 3)) 1 = o43_x1.toInt := by rw [hf_o43]; rfl
    have pl45 : (o43_x1.toInt = o33_x1.toInt + 4) := by have q9 := hw40p; rw [tv44] at q9; exact q9
    refine lv_aload_n hx hb dX11_feed_36 rfl (lv_at hl 0 rfl) ?_
    have hf_46 : f41 h0 = .inr (11, [.ref (ρ h0 0), .ref (ρ h0 1), .ref (ρ h0 2), .ref (ρ h0 3), .ref (ρ h0 4), .ref (ρ h0 5), .int o12_x6]) := (hF42 _ (by rw [ht_h0]; decide)).trans hf_36
    refine tpk_pos (tp_in hG ht_h0 (by decide)) hf_46 (fun q47 eq47 => ?_)
    refine va_get (D := (dC, dI)) (ci := 11) (v := .ref (ρ h0 3)) (C := RX11) (T := TX11) (N := 7) hx hb hts hfX11 hown hK hP q47 eq47 rfl 3 (by decide) (hts (.fieldLink RX11 32 "ColdShips" "reader" "LColdShips$Reader;") wa_24) (fun _ h9 => h9) rfl dX11_feed_37 ?_
    refine lv_iload hx hb dX11_feed_40 (lv_at hl 4 rfl) ?_
    refine tpk_pos (tp_in hG y4 (by decide)) hf_o43 (fun q48 eq48 => ?_)
    have hFc := tp_fr hD hS hA
    have ro43_1 := tp_hu ro43_1; have ro43_6 := tp_hu ro43_6; have ro43_2 := tp_hu ro43_2; have ro43_3 := tp_hu ro43_3; have ro43_4 := tp_hu ro43_4; have ro43_5 := tp_hu ro43_5
    refine va_callv (va_runV (As := [.int b]) (rest := []) ⟨hx, hb, hml, hown, hts⟩ (t_X2_addFour l dC dI _ Ω κ τ ν ρ L f41 hG hT (ρ h0 3) b y4 o43_x1 o43_x2 o43_x3 o43_x4 o43_x5 o43_x6 o43_x8 o43_x10 o43_x11 o43_x12 o43_x13 o43_x14 o43_x15 hf_o43 (by omega)) (cwV 1 hts gX11_feed_X2_addFour rfl rfl rfl ⟨rfl, pd_X2_addFour⟩ ⟨Nat.le_of_ble_eq_true rfl, Nat.le_of_ble_eq_true rfl⟩) ⟨pz_blind, va_recv hK hP (ci := 2) (q0 := q48) rfl eq48, pz_pre hP hK hD hN⟩ rfl rfl hl.1 rfl (lv_room (Nat.le_of_ble_eq_true rfl)) dX11_feed_42 ⟨Nat.le_of_ble_eq_true rfl, Nat.le_of_ble_eq_true rfl⟩) hS (fun q _ h => hFc q h) hFc (fun f51 t H1 locs ht hvm hw50 hB hz1 hk1 hS => ?_)
    refine tn_3 hw50 (fun hT hF52 hw50p => ?_); clear hw50
    have hR := hR.then hF52 (by decide)
    have hP := hB.1; rw [ht] at hP; have hD := tp_ad f51 hD; clear hB hFc hz1 hk1; subst ht; generalize t.heap = H at hP hS ⊢
    refine tpk_3 hT y4 (fun o53_x1 o53_x2 o53_x3 o53_x4 o53_x5 o53_x6 o53_x8 o53_x10 o53_x11 o53_x12 o53_x13 o53_x14 o53_x15 hf_o53 ro53_0 ro53_1 ro53_2 ro53_3 ro53_4 ro53_5 ro53_6 => ?_)
    have ro53_0 := tp_hu ro53_0
    have tv54 : tp_fld (f51 (ρ h0 3)) 1 = o53_x1.toInt := by rw [hf_o53]; rfl
    have pl55 : (o53_x1.toInt = o43_x1.toInt + 4) := by have q9 := hw50p; rw [tv54] at q9; exact q9
    refine lv_aload_n hx hb dX11_feed_45 rfl (lv_at hl 0 rfl) ?_
    have hf_56 : f51 h0 = .inr (11, [.ref (ρ h0 0), .ref (ρ h0 1), .ref (ρ h0 2), .ref (ρ h0 3), .ref (ρ h0 4), .ref (ρ h0 5), .int o12_x6]) := (hF52 _ (by rw [ht_h0]; decide)).trans hf_46
    refine tpk_pos (tp_in hG ht_h0 (by decide)) hf_56 (fun q57 eq57 => ?_)
    refine va_get (D := (dC, dI)) (ci := 11) (v := .ref (ρ h0 3)) (C := RX11) (T := TX11) (N := 7) hx hb hts hfX11 hown hK hP q57 eq57 rfl 3 (by decide) (hts (.fieldLink RX11 32 "ColdShips" "reader" "LColdShips$Reader;") wa_24) (fun _ h9 => h9) rfl dX11_feed_46 ?_
    refine lv_iload hx hb dX11_feed_49 (lv_at hl 5 rfl) ?_
    refine tpk_pos (tp_in hG y4 (by decide)) hf_o53 (fun q58 eq58 => ?_)
    have hFc := tp_fr hD hS hA
    have ro53_1 := tp_hu ro53_1; have ro53_6 := tp_hu ro53_6; have ro53_2 := tp_hu ro53_2; have ro53_3 := tp_hu ro53_3; have ro53_4 := tp_hu ro53_4; have ro53_5 := tp_hu ro53_5
    refine va_callv (va_runV (As := [.int a5]) (rest := []) ⟨hx, hb, hml, hown, hts⟩ (t_X2_addFour l dC dI _ Ω κ τ ν ρ L f51 hG hT (ρ h0 3) a5 y4 o53_x1 o53_x2 o53_x3 o53_x4 o53_x5 o53_x6 o53_x8 o53_x10 o53_x11 o53_x12 o53_x13 o53_x14 o53_x15 hf_o53 (by omega)) (cwV 1 hts gX11_feed_X2_addFour rfl rfl rfl ⟨rfl, pd_X2_addFour⟩ ⟨Nat.le_of_ble_eq_true rfl, Nat.le_of_ble_eq_true rfl⟩) ⟨pz_blind, va_recv hK hP (ci := 2) (q0 := q58) rfl eq58, pz_pre hP hK hD hN⟩ rfl rfl hl.1 rfl (lv_room (Nat.le_of_ble_eq_true rfl)) dX11_feed_51 ⟨Nat.le_of_ble_eq_true rfl, Nat.le_of_ble_eq_true rfl⟩) hS (fun q _ h => hFc q h) hFc (fun f61 t H1 locs ht hvm hw60 hB hz1 hk1 hS => ?_)
    refine tn_3 hw60 (fun hT hF62 hw60p => ?_); clear hw60
    have hR := hR.then hF62 (by decide)
    have hP := hB.1; rw [ht] at hP; have hD := tp_ad f61 hD; clear hB hFc hz1 hk1; subst ht; generalize t.heap = H at hP hS ⊢
    refine tpk_3 hT y4 (fun o63_x1 o63_x2 o63_x3 o63_x4 o63_x5 o63_x6 o63_x8 o63_x10 o63_x11 o63_x12 o63_x13 o63_x14 o63_x15 hf_o63 ro63_0 ro63_1 ro63_2 ro63_3 ro63_4 ro63_5 ro63_6 => ?_)
    have ro63_0 := tp_hu ro63_0
    have tv64 : tp_fld (f61 (ρ h0 3)) 1 = o63_x1.toInt := by rw [hf_o63]; rfl
    have pl65 : (o63_x1.toInt = o53_x1.toInt + 4) := by have q9 := hw60p; rw [tv64] at q9; exact q9
    refine lv_aload_n hx hb dX11_feed_54 rfl (lv_at hl 0 rfl) ?_
    have hf_66 : f61 h0 = .inr (11, [.ref (ρ h0 0), .ref (ρ h0 1), .ref (ρ h0 2), .ref (ρ h0 3), .ref (ρ h0 4), .ref (ρ h0 5), .int o12_x6]) := (hF62 _ (by rw [ht_h0]; decide)).trans hf_56
    refine tpk_pos (tp_in hG ht_h0 (by decide)) hf_66 (fun q67 eq67 => ?_)
    refine va_get (D := (dC, dI)) (ci := 11) (v := .ref (ρ h0 3)) (C := RX11) (T := TX11) (N := 7) hx hb hts hfX11 hown hK hP q67 eq67 rfl 3 (by decide) (hts (.fieldLink RX11 32 "ColdShips" "reader" "LColdShips$Reader;") wa_24) (fun _ h9 => h9) rfl dX11_feed_55 ?_
    refine tpk_pos (tp_in hG y4 (by decide)) hf_o63 (fun q68 eq68 => ?_)
    refine va_getN (D := (dC, dI)) (ci := 2) (v := .int o63_x1) (C := RX2) (T := TX2) (N := 16) hx hb hts hfX2 hown hK hP q68 eq68 rfl 1 (by decide) (va_Nw.use rfl (hN.1 (.fieldLinkNest RX11 260 "ColdShips$Reader" "size" "I" "ColdShips") nzw_88)) (fun _ h9 => h9) rfl dX11_feed_58 ?_
    have tv69 : tp_fld (f (ρ h0 3)) 1 = o11_x1.toInt := by rw [hf_o11]; rfl
    have tv70 : tp_fld (f61 (ρ h0 3)) 1 = o63_x1.toInt := by rw [hf_o63]; rfl
    exact W.iret (v := o63_x1) hx hb hr (fun t ht hW => ⟨⟨o63_x1, f61, rfl, ⟨hT, hR, trivial, (by rw [tv69, tv70]; exact ⟨⟨fun q0 => by omega, fun q0 => (by omega)⟩, ⟨fun q0 => by omega, fun q0 => (by omega)⟩⟩)⟩, by rw [ht]; exact hP, va_K.moved hW.alike hK, hD⟩, hS.F ht⟩) hS.2.2 dX11_feed_61
  · have ic17 : r15.toInt = 0 := zi_nef rfl rfl c17
    have p71 : ¬ (o11_x1.toInt + 20 ≤ 400) := (tp_cond.no hw16p) (by omega)
    clear hw16r ic17
    refine lv_iconst (v := (-1)) hx hb dX11_feed_10 (by decide) ?_
    have tv72 : tp_fld (f (ρ h0 3)) 1 = o11_x1.toInt := by rw [hf_o11]; rfl
    exact W.iret (v := (-1)) hx hb hr (fun t ht hW => ⟨⟨(-1), f, rfl, ⟨hT, hR, trivial, (by rw [tv72]; exact ⟨⟨fun q0 => by have : ((-1) : Int32).toInt = (-1) := rfl; omega, fun q0 => (by have : ((-1) : Int32).toInt = (-1) := rfl; omega)⟩, ⟨fun q0 => by have : ((-1) : Int32).toInt = (-1) := rfl; omega, fun q0 => (by have : ((-1) : Int32).toInt = (-1) := rfl; omega)⟩⟩)⟩, by rw [ht]; exact hP, va_K.moved hW.alike hK, hD⟩, hS.F ht⟩) hS.2.2 dX11_feed_11
set_option maxHeartbeats 4000000 in
set_option maxRecDepth 100000 in
theorem t_X11_end (l : Launch) (dC : Nat → ClassId) (dI : Nat → Nat → Nat) (sz : Nat) (Ω : Nat → Nat → (Nat → Nat) → va_E → Prop) (κ : Nat → ClassId) (τ ν : Nat → Nat) (ρ : Nat → Nat → Nat) (L : List Nat) (f : Nat → va_E) (hG : tp_G τ ν ρ L) (hT : tp_T Ω κ τ ν ρ f) (h0 : Nat) (v : Int32) (ht_h0 : τ h0 = 12) : Met l yX11_end wqX11_end ({ frames := 3, cells := 0, slots := 0, locals := 800 }) (va_Pc [.ref h0, .int v] (pz_B dC dI (tp_K κ) (va_pl L f) sz)) (va_Qi (fun (r : Int32) (f1 : Nat → va_E) => tp_T Ω κ τ ν ρ f1 ∧ tp_F τ [3] f f1 ∧ True ∧ ((((¬ (0 ≤ v.toInt ∧ v.toInt ≤ (tp_fld (f (ρ h0 3)) 1))) → r.toInt = -1) ∧ (¬ (¬ (0 ≤ v.toInt ∧ v.toInt ≤ (tp_fld (f (ρ h0 3)) 1))) → r.toInt = v.toInt))) ∧ ((((¬ (0 ≤ v.toInt ∧ v.toInt ≤ (tp_fld (f (ρ h0 3)) 1))) → (tp_fld (f1 (ρ h0 3)) 1) = (tp_fld (f (ρ h0 3)) 1)) ∧ (¬ (¬ (0 ≤ v.toInt ∧ v.toInt ≤ (tp_fld (f (ρ h0 3)) 1))) → (tp_fld (f1 (ρ h0 3)) 1) = v.toInt)))) (fun (f1 : Nat → va_E) (t : State) => pz_E dC dI (tp_K κ) (va_A (va_pl L f) sz) (va_pl L f1) t) (va_A (va_pl L f) sz)) 0 0 (va_A (va_pl L f) sz) := by
  refine Met.ofW (cc := cX11_end) (maxL := 2) (ret := some .int) (by decide) rfl ?_
  intro p e s m args below meth c s₁ B hml hv
  obtain ⟨rfl, hsz, hP, hK, hD0, hN⟩ := hv
  have hx := B.exec
  have hb := B.bytes
  have hr := B.returns
  have hts := fun (w : Cond) (h : w ∈ WALL) => atoms_spec (ws := wqX11_end) B.pre w (List.mem_cons_of_mem _ h)
  have hown : s.vm.findClass RX11 = some m.cls := findClass_of_methodNamed B.named
  have hlocks := B.notSynchronized
  subst hsz
  have hD := hD0.self (sz := s.heap.size)
  generalize hAe : va_A (va_pl L f) s.heap.size = A at hD ⊢
  have hA : ∀ q : Nat, s.heap.size ≤ q → A q := fun q h => by rw [← hAe]; exact Or.inr h
  have hS : va_S A s.heap s.heap [] := va_S.rf
  have hR : tp_F τ [3] f f := tp_F.rf
  have hl := lv_entry ([.ref h0, .int v]) (n := 2) (Nat.le_of_ble_eq_true rfl)
  rw [lg_entry_eq]
  generalize (lg_sl ([.ref h0, .int v]) ++ List.replicate (2 - (lg_sl ([.ref h0, .int v])).length) Slot.unset).toArray = ls at hl ⊢
  have hl : lv_has ls 2 [(0, .ref h0), (1, .int v)] := hl
  refine tgk_12 hG ht_h0 (fun y1 y1l y2 y3 y4 y5 y6 y7a y7b y7c => ?_)
  refine tgk_3 hG y4 (fun y8 y8n y9 y9n y10 y10n => ?_)
  refine tpk_3 hT y4 (fun o11_x1 o11_x2 o11_x3 o11_x4 o11_x5 o11_x6 o11_x8 o11_x10 o11_x11 o11_x12 o11_x13 o11_x14 o11_x15 hf_o11 ro11_0 ro11_1 ro11_2 ro11_3 ro11_4 ro11_5 ro11_6 => ?_)
  refine lv_iload_n hx hb dX11_end_0 rfl (lv_at hl 1 rfl) ?_
  refine lv_iconst (v := 0) hx hb dX11_end_1 (by decide) ?_
  refine lv_aload_n hx hb dX11_end_2 rfl (lv_at hl 0 rfl) ?_
  refine tpk_12 hT ht_h0 (fun o12_x6 hf_o12 => ?_)
  refine tpk_pos (tp_in hG ht_h0 (by decide)) hf_o12 (fun q13 eq13 => ?_)
  refine va_get (D := (dC, dI)) (ci := 11) (v := .ref (ρ h0 3)) (C := RX11) (T := TX11) (N := 7) hx hb hts hfX11 hown hK hP q13 eq13 rfl 3 (by decide) (hts (.fieldLink RX11 32 "ColdShips" "reader" "LColdShips$Reader;") wa_24) (fun _ h9 => h9) rfl dX11_end_3 ?_
  refine tpk_pos (tp_in hG y4 (by decide)) hf_o11 (fun q14 eq14 => ?_)
  have ro11_0 := tp_hu ro11_0
  refine va_getN (D := (dC, dI)) (ci := 2) (v := .int o11_x1) (C := RX2) (T := TX2) (N := 16) hx hb hts hfX2 hown hK hP q14 eq14 rfl 1 (by decide) (va_Nw.use rfl (hN.1 (.fieldLinkNest RX11 260 "ColdShips$Reader" "size" "I" "ColdShips") nzw_88)) (fun _ h9 => h9) rfl dX11_end_6 ?_
  refine pz_calli (va_runS (As := [.int v, .int 0, .int o11_x1]) (rest := []) ⟨hx, hb, hml, hown, hts⟩ (t_X11_within l dC dI _ v (0) o11_x1 (v.toInt) (0) (o11_x1.toInt) rfl rfl rfl) (va_cwS 3 hts gX11_end_X11_within rfl rfl rfl pd_X11_within ⟨Nat.le_of_ble_eq_true rfl, Nat.le_of_ble_eq_true rfl⟩) ⟨pz_blind, pz_pre pz_P0 (hK.sub (tys' := []) [] rfl) (pz_D0 (A := fun _ => True)) hN⟩ rfl rfl hl.1 rfl (lv_room (Nat.le_of_ble_eq_true rfl)) dX11_end_9 ⟨Nat.le_of_ble_eq_true rfl, Nat.le_of_ble_eq_true rfl⟩) (fun r15 hw16 => ?_)
  obtain ⟨hw16r, hw16p⟩ := hw16
  refine lv_if_ne (tgt := 17) hx hb dX11_end_12 (by decide) (fun c17 => ?_) (fun c17 => ?_)
  · have ic17 : r15.toInt ≠ 0 := zi_ne rfl rfl c17
    have p18 : (0) ≤ (v.toInt) ∧ (v.toInt) ≤ (o11_x1.toInt) := (tp_cond.yes hw16p) (by omega)
    clear hw16r ic17
    refine lv_aload_n hx hb dX11_end_17 rfl (lv_at hl 0 rfl) ?_
    refine va_get (D := (dC, dI)) (ci := 11) (v := .ref (ρ h0 3)) (C := RX11) (T := TX11) (N := 7) hx hb hts hfX11 hown hK hP q13 eq13 rfl 3 (by decide) (hts (.fieldLink RX11 32 "ColdShips" "reader" "LColdShips$Reader;") wa_24) (fun _ h9 => h9) rfl dX11_end_18 ?_
    refine lv_iload_n hx hb dX11_end_21 rfl (lv_at hl 1 rfl) ?_
    refine va_putN (D := (dC, dI)) (ci := 2) (v := .int v) (ty := .int) (C := RX2) (T := TX2) (N := 16) hx hb hts hfX2 tyX2 tyX2_ok nmX2 hown hK hP hD hS q14 eq14 rfl 1 (by decide) (va_Nw.use rfl (hN.1 (.fieldLinkNest RX11 260 "ColdShips$Reader" "size" "I" "ColdShips") nzw_88)) (fun _ h9 => h9) rfl (tyX2_ok 1 (by decide)) rfl rfl (Nat.le_of_ble_eq_true rfl) dX11_end_22 (tp_k (.inr (2, [.ref (ρ (ρ h0 3) 0), .int v, .int o11_x2, .int o11_x3, .int o11_x4, .int o11_x5, .int o11_x6, .ref (ρ (ρ h0 3) 7), .int o11_x8, .ref (ρ (ρ h0 3) 9), .int o11_x10, .int o11_x11, .int o11_x12, .int o11_x13, .int o11_x14, .int o11_x15])) hD (tp_in hG y4 (by decide)) eq14 (fun f19 H locs hP hD hS g21 k20 => ?_))
    have hT := hT.up y4 g21 k20 ⟨_, _, _, _, _, _, _, _, _, _, _, _, _, rfl, (by first | decide | omega | (omega)), ro11_1, ro11_2, ro11_3, ro11_4, ro11_5, ro11_6⟩
    have hR := hR.up y4 (by decide) k20
    refine lv_iload_n hx hb dX11_end_25 rfl (lv_at hl 1 rfl) ?_
    have tv22 : tp_fld (f (ρ h0 3)) 1 = o11_x1.toInt := by rw [hf_o11]; rfl
    have tv23 : tp_fld (f19 (ρ h0 3)) 1 = v.toInt := by rw [g21]; rfl
    exact W.iret (v := v) hx hb hr (fun t ht hW => ⟨⟨v, f19, rfl, ⟨hT, hR, trivial, (by rw [tv22, tv23]; exact ⟨⟨fun q0 => by omega, fun q0 => (by omega)⟩, ⟨fun q0 => by omega, fun q0 => (by omega)⟩⟩)⟩, by rw [ht]; exact hP, va_K.moved hW.alike hK, hD⟩, hS.F ht⟩) hS.2.2 dX11_end_26
  · have ic17 : r15.toInt = 0 := zi_nef rfl rfl c17
    have p24 : ¬ ((0) ≤ (v.toInt) ∧ (v.toInt) ≤ (o11_x1.toInt)) := (tp_cond.no hw16p) (by omega)
    clear hw16r ic17
    refine lv_iconst (v := (-1)) hx hb dX11_end_15 (by decide) ?_
    have tv25 : tp_fld (f (ρ h0 3)) 1 = o11_x1.toInt := by rw [hf_o11]; rfl
    exact W.iret (v := (-1)) hx hb hr (fun t ht hW => ⟨⟨(-1), f, rfl, ⟨hT, hR, trivial, (by rw [tv25]; exact ⟨⟨fun q0 => by have : ((-1) : Int32).toInt = (-1) := rfl; omega, fun q0 => (by have : ((-1) : Int32).toInt = (-1) := rfl; omega)⟩, ⟨fun q0 => by have : ((-1) : Int32).toInt = (-1) := rfl; omega, fun q0 => (by have : ((-1) : Int32).toInt = (-1) := rfl; omega)⟩⟩)⟩, by rw [ht]; exact hP, va_K.moved hW.alike hK, hD⟩, hS.F ht⟩) hS.2.2 dX11_end_16
set_option maxHeartbeats 4000000 in
set_option maxRecDepth 100000 in
theorem t_X11_fault (l : Launch) (dC : Nat → ClassId) (dI : Nat → Nat → Nat) (sz : Nat) (Ω : Nat → Nat → (Nat → Nat) → va_E → Prop) (κ : Nat → ClassId) (τ ν : Nat → Nat) (ρ : Nat → Nat → Nat) (L : List Nat) (f : Nat → va_E) (hG : tp_G τ ν ρ L) (hT : tp_T Ω κ τ ν ρ f) (h0 : Nat) (ht_h0 : τ h0 = 12) : Met l yX11_fault wqX11_fault ({ frames := 2, cells := 0, slots := 0, locals := 400 }) (va_Pc [.ref h0] (pz_B dC dI (tp_K κ) (va_pl L f) sz)) (va_Qi (fun (r : Int32) (f1 : Nat → va_E) => tp_T Ω κ τ ν ρ f1 ∧ tp_F τ [] f f1 ∧ True ∧ True) (fun (f1 : Nat → va_E) (t : State) => pz_E dC dI (tp_K κ) (va_A (va_pl L f) sz) (va_pl L f1) t) (va_A (va_pl L f) sz)) 0 0 (va_A (va_pl L f) sz) := by
  refine Met.ofW (cc := cX11_fault) (maxL := 1) (ret := some .int) (by decide) rfl ?_
  intro p e s m args below meth c s₁ B hml hv
  obtain ⟨rfl, hsz, hP, hK, hD0, hN⟩ := hv
  have hx := B.exec
  have hb := B.bytes
  have hr := B.returns
  have hts := fun (w : Cond) (h : w ∈ WALL) => atoms_spec (ws := wqX11_fault) B.pre w (List.mem_cons_of_mem _ h)
  have hown : s.vm.findClass RX11 = some m.cls := findClass_of_methodNamed B.named
  have hlocks := B.notSynchronized
  subst hsz
  have hD := hD0.self (sz := s.heap.size)
  generalize hAe : va_A (va_pl L f) s.heap.size = A at hD ⊢
  have hA : ∀ q : Nat, s.heap.size ≤ q → A q := fun q h => by rw [← hAe]; exact Or.inr h
  have hS : va_S A s.heap s.heap [] := va_S.rf
  have hR : tp_F τ [] f f := tp_F.rf
  have hl := lv_entry ([.ref h0]) (n := 1) (Nat.le_of_ble_eq_true rfl)
  rw [lg_entry_eq]
  generalize (lg_sl ([.ref h0]) ++ List.replicate (1 - (lg_sl ([.ref h0])).length) Slot.unset).toArray = ls at hl ⊢
  have hl : lv_has ls 1 [(0, .ref h0)] := hl
  refine lv_aload_n hx hb dX11_fault_0 rfl (lv_at hl 0 rfl) ?_
  refine tgk_12 hG ht_h0 (fun y1 y1l y2 y3 y4 y5 y6 y7a y7b y7c => ?_)
  refine tpk_12 hT ht_h0 (fun o8_x6 hf_o8 => ?_)
  refine tpk_pos (tp_in hG ht_h0 (by decide)) hf_o8 (fun q9 eq9 => ?_)
  refine va_get (D := (dC, dI)) (ci := 11) (v := .ref (ρ h0 3)) (C := RX11) (T := TX11) (N := 7) hx hb hts hfX11 hown hK hP q9 eq9 rfl 3 (by decide) (hts (.fieldLink RX11 32 "ColdShips" "reader" "LColdShips$Reader;") wa_24) (fun _ h9 => h9) rfl dX11_fault_1 ?_
  refine tgk_3 hG y4 (fun y10 y10n y11 y11n y12 y12n => ?_)
  refine tpk_3 hT y4 (fun o13_x1 o13_x2 o13_x3 o13_x4 o13_x5 o13_x6 o13_x8 o13_x10 o13_x11 o13_x12 o13_x13 o13_x14 o13_x15 hf_o13 ro13_0 ro13_1 ro13_2 ro13_3 ro13_4 ro13_5 ro13_6 => ?_)
  refine tpk_pos (tp_in hG y4 (by decide)) hf_o13 (fun q14 eq14 => ?_)
  refine va_getN (D := (dC, dI)) (ci := 2) (v := .int o13_x2) (C := RX2) (T := TX2) (N := 16) hx hb hts hfX2 hown hK hP q14 eq14 rfl 2 (by decide) (va_Nw.use rfl (hN.1 (.fieldLinkNest RX11 275 "ColdShips$Reader" "faultAt" "I" "ColdShips") nzw_89)) (fun _ h9 => h9) rfl dX11_fault_4 ?_
  exact W.iret (v := o13_x2) hx hb hr (fun t ht hW => ⟨⟨o13_x2, f, rfl, ⟨hT, hR, trivial, trivial⟩, by rw [ht]; exact hP, va_K.moved hW.alike hK, hD⟩, hS.F ht⟩) hS.2.2 dX11_fault_7
set_option maxHeartbeats 4000000 in
set_option maxRecDepth 100000 in
theorem t_X11_due (l : Launch) (dC : Nat → ClassId) (dI : Nat → Nat → Nat) (sz : Nat) (Ω : Nat → Nat → (Nat → Nat) → va_E → Prop) (κ : Nat → ClassId) (τ ν : Nat → Nat) (ρ : Nat → Nat → Nat) (L : List Nat) (f : Nat → va_E) (hG : tp_G τ ν ρ L) (hT : tp_T Ω κ τ ν ρ f) (h0 : Nat) (v : Int32) (u : Int32) (a : Int32) (b : Int32) (ht_h0 : τ h0 = 12) : Met l yX11_due wqX11_due ({ frames := 7, cells := 0, slots := 0, locals := 2400 }) (va_Pc [.ref h0, .int v, .int u, .int a, .int b] (pz_B dC dI (tp_K κ) (va_pl L f) sz)) (va_Ql (fun (r : Int64) (f1 : Nat → va_E) => tp_T Ω κ τ ν ρ f1 ∧ tp_F τ [4, 21] f f1 ∧ True ∧ True) (fun (f1 : Nat → va_E) (t : State) => pz_E dC dI (tp_K κ) (va_A (va_pl L f) sz) (va_pl L f1) t) (va_A (va_pl L f) sz)) 0 0 (va_A (va_pl L f) sz) := by
  refine Met.ofW (cc := cX11_due) (maxL := 5) (ret := some .long) (by decide) rfl ?_
  intro p e s m args below meth c s₁ B hml hv
  obtain ⟨rfl, hsz, hP, hK, hD0, hN⟩ := hv
  have hx := B.exec
  have hb := B.bytes
  have hr := B.returns
  have hts := fun (w : Cond) (h : w ∈ WALL) => atoms_spec (ws := wqX11_due) B.pre w (List.mem_cons_of_mem _ h)
  have hown : s.vm.findClass RX11 = some m.cls := findClass_of_methodNamed B.named
  have hlocks := B.notSynchronized
  subst hsz
  have hD := hD0.self (sz := s.heap.size)
  generalize hAe : va_A (va_pl L f) s.heap.size = A at hD ⊢
  have hA : ∀ q : Nat, s.heap.size ≤ q → A q := fun q h => by rw [← hAe]; exact Or.inr h
  have hS : va_S A s.heap s.heap [] := va_S.rf
  have hR : tp_F τ [4, 21] f f := tp_F.rf
  have hl := lv_entry ([.ref h0, .int v, .int u, .int a, .int b]) (n := 5) (Nat.le_of_ble_eq_true rfl)
  rw [lg_entry_eq]
  generalize (lg_sl ([.ref h0, .int v, .int u, .int a, .int b]) ++ List.replicate (5 - (lg_sl ([.ref h0, .int v, .int u, .int a, .int b])).length) Slot.unset).toArray = ls at hl ⊢
  have hl : lv_has ls 5 [(0, .ref h0), (1, .int v), (2, .int u), (3, .int a), (4, .int b)] := hl
  refine lv_aload_n hx hb dX11_due_0 rfl (lv_at hl 0 rfl) ?_
  refine tgk_12 hG ht_h0 (fun y1 y1l y2 y3 y4 y5 y6 y7a y7b y7c => ?_)
  refine tpk_12 hT ht_h0 (fun o8_x6 hf_o8 => ?_)
  refine tpk_pos (tp_in hG ht_h0 (by decide)) hf_o8 (fun q9 eq9 => ?_)
  refine va_get (D := (dC, dI)) (ci := 11) (v := .ref (ρ h0 0)) (C := RX11) (T := TX11) (N := 7) hx hb hts hfX11 hown hK hP q9 eq9 rfl 0 (by decide) (hts (.fieldLink RX11 10 "ColdShips" "world" "LColdShips$World;") wa_15) (fun _ h9 => h9) rfl dX11_due_1 ?_
  refine tgk_11 hG y1 (fun y10 y10n y11 y11n y12 y13 y14 y15 y15m y15l y16 y16m y16l y17 y17m y17l y18 y18w y18m y18l y19 y19w y19m y19l y20 y20w y20m y20l y21 y21w y21m y21l => ?_)
  refine tpk_11 hT y1 (fun o22_x0 o22_x1 o22_x2 o22_x3 o22_x4 o22_x5 o22_x6 hf_o22 ro22_0 ro22_1 ro22_2 ro22_3 => ?_)
  refine tpk_pos (tp_in hG y1 (by decide)) hf_o22 (fun q23 eq23 => ?_)
  refine va_getN (D := (dC, dI)) (ci := 10) (v := .ref (ρ (ρ h0 0) 17)) (C := RX10) (T := TX10) (N := 19) hx hb hts hfX10 hown hK hP q23 eq23 rfl 17 (by decide) (va_Nw.use rfl (hN.1 (.fieldLinkNest RX11 207 "ColdShips$World" "landings" "LColdShips$Rows;" "ColdShips") nzw_85)) (fun _ h9 => h9) rfl dX11_due_4 ?_
  refine lv_iload_n hx hb dX11_due_7 rfl (lv_at hl 1 rfl) ?_
  refine tgk_5 hG y20 (fun y24 y24n y25a y25b y25c => ?_)
  refine tpk_5 hT y20 (fun o26_x0 o26_x2 hf_o26 ro26_0 ro26_1 => ?_)
  refine tpk_pos (tp_in hG y20 (by decide)) hf_o26 (fun q27 eq27 => ?_)
  have ro26_0 := tp_hu ro26_0; have ro26_1 := tp_hu ro26_1
  refine pz_calli (va_runV (As := [.int v]) (rest := []) ⟨hx, hb, hml, hown, hts⟩ (t_X4_has l dC dI _ Ω κ τ ν ρ L f hG hT (ρ (ρ h0 0) 17) v y20 o26_x0 o26_x2 hf_o26) (cwV 1 hts gX11_due_X4_has rfl rfl rfl ⟨rfl, pd_X4_has⟩ ⟨Nat.le_of_ble_eq_true rfl, Nat.le_of_ble_eq_true rfl⟩) ⟨pz_blind, va_recv hK hP (ci := 4) (q0 := q27) rfl eq27, pz_pre hP hK hD hN⟩ rfl rfl hl.1 rfl (lv_room (Nat.le_of_ble_eq_true rfl)) dX11_due_8 ⟨Nat.le_of_ble_eq_true rfl, Nat.le_of_ble_eq_true rfl⟩) (fun r28 hw29 => ?_)
  obtain ⟨hw29r, hw29p⟩ := hw29
  refine lv_if_eq (tgt := 32) hx hb dX11_due_11 (by decide) (fun c30 => ?_) (fun c30 => ?_)
  · have ic30 : r28.toInt = 0 := zi_eq rfl rfl c30
    clear hw29r ic30
    refine lv_ldc2 (own := RX11) (v := (-2000000000000000)) hx hb hown (hts (.constantLong RX11 281 (-2000000000000000)) wa_1124) dX11_due_32 ?_
    exact W.lret (v := (-2000000000000000)) hx hb hr (fun t ht hW => ⟨⟨(-2000000000000000), f, rfl, ⟨hT, hR, trivial, trivial⟩, by rw [ht]; exact hP, va_K.moved hW.alike hK, hD⟩, hS.F ht⟩) hS.2.2 dX11_due_35
  · have ic30 : r28.toInt ≠ 0 := zi_eqf rfl rfl c30
    have p31 : 0 ≤ v.toInt ∧ v.toInt < o26_x2.toInt := (tp_cond.yes hw29p) (by omega)
    clear hw29r ic30
    refine lv_aload_n hx hb dX11_due_14 rfl (lv_at hl 0 rfl) ?_
    refine va_get (D := (dC, dI)) (ci := 11) (v := .ref (ρ h0 0)) (C := RX11) (T := TX11) (N := 7) hx hb hts hfX11 hown hK hP q9 eq9 rfl 0 (by decide) (hts (.fieldLink RX11 10 "ColdShips" "world" "LColdShips$World;") wa_15) (fun _ h9 => h9) rfl dX11_due_15 ?_
    refine lv_iload_n hx hb dX11_due_18 rfl (lv_at hl 2 rfl) ?_
    refine tpk_26 hT y14 (fun g33 hf_o32 hf_o32e => ?_)
    have ro22_0 := tp_hu ro22_0; have ro22_1 := tp_hu ro22_1; have ro22_2 := tp_hu ro22_2; have ro22_3 := tp_hu ro22_3
    refine pz_calli (va_runV (As := [.int u]) (rest := []) ⟨hx, hb, hml, hown, hts⟩ (t_X10_hasContract l dC dI _ Ω κ τ ν ρ L f hG hT (ρ h0 0) u y1 o22_x0 o22_x1 o22_x2 o22_x3 o22_x4 o22_x5 o22_x6 hf_o22 g33 hf_o32) (cwV 1 hts gX11_due_X10_hasContract rfl rfl rfl ⟨rfl, pd_X10_hasContract⟩ ⟨Nat.le_of_ble_eq_true rfl, Nat.le_of_ble_eq_true rfl⟩) ⟨pz_blind, va_recv hK hP (ci := 10) (q0 := q23) rfl eq23, pz_pre hP hK hD hN⟩ rfl rfl hl.1 rfl (lv_room (Nat.le_of_ble_eq_true rfl)) dX11_due_19 ⟨Nat.le_of_ble_eq_true rfl, Nat.le_of_ble_eq_true rfl⟩) (fun r34 hw35 => ?_)
    obtain ⟨hw35r, hw35p⟩ := hw35
    refine lv_if_eq (tgt := 32) hx hb dX11_due_22 (by decide) (fun c36 => ?_) (fun c36 => ?_)
    · have ic36 : r34.toInt = 0 := zi_eq rfl rfl c36
      refine lv_ldc2 (own := RX11) (v := (-2000000000000000)) hx hb hown (hts (.constantLong RX11 281 (-2000000000000000)) wa_1124) dX11_due_32 ?_
      exact W.lret (v := (-2000000000000000)) hx hb hr (fun t ht hW => ⟨⟨(-2000000000000000), f, rfl, ⟨hT, hR, trivial, trivial⟩, by rw [ht]; exact hP, va_K.moved hW.alike hK, hD⟩, hS.F ht⟩) hS.2.2 dX11_due_35
    · have ic36 : r34.toInt ≠ 0 := zi_eqf rfl rfl c36
      have p37 : ((0 ≤ u.toInt ∧ u.toInt ≤ 11) ∧ ∃ b : Nat, g33 u.toNatClampNeg = some b ∧ τ b = 1) := hw35p (by omega)
      obtain ⟨p37, b38, hq39, hq39t⟩ := p37
      refine lv_iload_n hx hb dX11_due_25 rfl (lv_at hl 3 rfl) ?_
      refine pz_calli (va_runS (As := [.int a]) (rest := []) ⟨hx, hb, hml, hown, hts⟩ (t_X11_isHour l dC dI _ a (a.toInt) rfl) (va_cwS 1 hts gX11_due_X11_isHour rfl rfl rfl pd_X11_isHour ⟨Nat.le_of_ble_eq_true rfl, Nat.le_of_ble_eq_true rfl⟩) ⟨pz_blind, pz_pre pz_P0 (hK.sub (tys' := []) [] rfl) (pz_D0 (A := fun _ => True)) hN⟩ rfl rfl hl.1 rfl (lv_room (Nat.le_of_ble_eq_true rfl)) dX11_due_26 ⟨Nat.le_of_ble_eq_true rfl, Nat.le_of_ble_eq_true rfl⟩) (fun r40 hw41 => ?_)
      obtain ⟨hw41r, hw41p⟩ := hw41
      refine lv_if_ne (tgt := 36) hx hb dX11_due_29 (by decide) (fun c42 => ?_) (fun c42 => ?_)
      · have ic42 : r40.toInt ≠ 0 := zi_ne rfl rfl c42
        have p43 : 0 ≤ (a.toInt) ∧ (a.toInt) ≤ 2399 := (tp_cond.yes hw41p) (by omega)
        clear hw41r ic42
        refine lv_aload_n hx hb dX11_due_36 rfl (lv_at hl 0 rfl) ?_
        refine va_get (D := (dC, dI)) (ci := 11) (v := .ref (ρ h0 4)) (C := RX11) (T := TX11) (N := 7) hx hb hts hfX11 hown hK hP q9 eq9 rfl 4 (by decide) (hts (.fieldLink RX11 39 "ColdShips" "reckoner" "LColdShips$Reckoner;") wa_28) (fun _ h9 => h9) rfl dX11_due_37 ?_
        refine lv_iload_n hx hb dX11_due_40 rfl (lv_at hl 1 rfl) ?_
        refine lv_aload_n hx hb dX11_due_41 rfl (lv_at hl 0 rfl) ?_
        refine va_get (D := (dC, dI)) (ci := 11) (v := .ref (ρ h0 0)) (C := RX11) (T := TX11) (N := 7) hx hb hts hfX11 hown hK hP q9 eq9 rfl 0 (by decide) (hts (.fieldLink RX11 10 "ColdShips" "world" "LColdShips$World;") wa_15) (fun _ h9 => h9) rfl dX11_due_42 ?_
        refine va_getN (D := (dC, dI)) (ci := 10) (v := .ref (ρ (ρ h0 0) 11)) (C := RX10) (T := TX10) (N := 19) hx hb hts hfX10 hown hK hP q23 eq23 rfl 11 (by decide) (va_Nw.use rfl (hN.1 (.fieldLinkNest RX11 271 "ColdShips$World" "contracts" "[LColdShips$Contract;" "ColdShips") nzw_72)) (fun _ h9 => h9) rfl dX11_due_45 ?_
        refine lv_iload_n hx hb dX11_due_48 rfl (lv_at hl 2 rfl) ?_
        refine tpk_pos (tp_in hG y14 (by decide)) hf_o32 (fun q44 eq44 => ?_)
        refine va_aldq hx hb hK hP q44 6 eq44 rfl (vp_in_iff.mpr ⟨by omega, by omega⟩) dX11_due_49 ?_
        refine W.eq (g2 := F0 m 50 ls (.ref b38 :: [.int v, .ref (ρ h0 4)])) (congrArg (fun o => F0 m 50 ls (va_rf o :: [.int v, .ref (ρ h0 4)])) hq39) ?_
        refine lv_iload_n hx hb dX11_due_50 rfl (lv_at hl 3 rfl) ?_
        refine tgk_4 hG y5 (fun y45 y45l y46 y46n y47 y47n => ?_)
        refine tpk_4 hT y5 (fun o48_x3 o48_x4 o48_x5 hf_o48 ro48_0 => ?_)
        refine tpk_pos (tp_in hG y5 (by decide)) hf_o48 (fun q49 eq49 => ?_)
        have hFc := tp_fr hD hS hA
        refine va_callv (va_runV (As := [.int v, .ref b38, .int a]) (rest := []) ⟨hx, hb, hml, hown, hts⟩ (t_X3_reckon l dC dI _ Ω κ τ ν ρ L f hG hT (ρ h0 4) v b38 a y5 hq39t) (cwV 3 hts gX11_due_X3_reckon rfl rfl rfl ⟨rfl, pd_X3_reckon⟩ ⟨Nat.le_of_ble_eq_true rfl, Nat.le_of_ble_eq_true rfl⟩) ⟨pz_blind, va_recv hK hP (ci := 3) (q0 := q49) rfl eq49, pz_pre hP hK hD hN⟩ rfl rfl hl.1 rfl (lv_room (Nat.le_of_ble_eq_true rfl)) dX11_due_51 ⟨Nat.le_of_ble_eq_true rfl, Nat.le_of_ble_eq_true rfl⟩) hS (fun q _ h => hFc q h) hFc (fun f52 t H1 locs ht hvm hw51 hB hz1 hk1 hS => ?_)
        refine tn_3 hw51 (fun hT hF53 hw51p => ?_); clear hw51
        have hR := hR.then hF53 (by decide)
        have hP := hB.1; rw [ht] at hP; have hD := tp_ad f52 hD; clear hB hFc hz1 hk1; subst ht; generalize t.heap = H at hP hS ⊢
        refine lv_iload hx hb dX11_due_54 (lv_at hl 4 rfl) ?_
        rcases zi_sw b 0 4 with h54 | h54
        · refine lv_tableOut (tgt := 144) hx hb dX11_due_56 h54 (by decide) ?_
          refine lv_ldc2 (own := RX11) (v := (-2000000000000000)) hx hb hown (hts (.constantLong RX11 281 (-2000000000000000)) wa_1124) dX11_due_144 ?_
          exact W.lret (v := (-2000000000000000)) hx hb hr (fun t ht hW => ⟨⟨(-2000000000000000), f52, rfl, ⟨hT, hR, trivial, trivial⟩, by rw [ht]; exact hP, va_K.moved hW.alike hK, hD⟩, hS.F ht⟩) hS.2.2 dX11_due_147
        · rcases (show b.toInt = 0 ∨ b.toInt = 1 ∨ b.toInt = 2 ∨ b.toInt = 3 ∨ b.toInt = 4 by omega) with h54k | h54k | h54k | h54k | h54k
          · refine lv_tableIn (tgt := 92) hx hb dX11_due_56 (by omega) (by omega) (by rw [h54k]; rfl) (by decide) ?_
            refine lv_aload_n hx hb dX11_due_92 rfl (lv_at hl 0 rfl) ?_
            have hf_55 : f52 h0 = .inr (11, [.ref (ρ h0 0), .ref (ρ h0 1), .ref (ρ h0 2), .ref (ρ h0 3), .ref (ρ h0 4), .ref (ρ h0 5), .int o8_x6]) := (hF53 _ (by rw [ht_h0]; decide)).trans hf_o8
            refine tpk_pos (tp_in hG ht_h0 (by decide)) hf_55 (fun q56 eq56 => ?_)
            refine va_get (D := (dC, dI)) (ci := 11) (v := .ref (ρ h0 4)) (C := RX11) (T := TX11) (N := 7) hx hb hts hfX11 hown hK hP q56 eq56 rfl 4 (by decide) (hts (.fieldLink RX11 39 "ColdShips" "reckoner" "LColdShips$Reckoner;") wa_28) (fun _ h9 => h9) rfl dX11_due_93 ?_
            refine tpk_4 hT y5 (fun o57_x3 o57_x4 o57_x5 hf_o57 ro57_0 => ?_)
            refine tpk_pos (tp_in hG y5 (by decide)) hf_o57 (fun q58 eq58 => ?_)
            refine va_getN (D := (dC, dI)) (ci := 3) (v := .long o57_x4) (C := RX3) (T := TX3) (N := 6) hx hb hts hfX3 hown hK hP q58 eq58 rfl 4 (by decide) (va_Nw.use rfl (hN.1 (.fieldLinkNest RX11 287 "ColdShips$Reckoner" "pays" "J" "ColdShips") nzw_91)) (fun _ h9 => h9) rfl dX11_due_96 ?_
            refine lv_aload_n hx hb dX11_due_99 rfl (lv_at hl 0 rfl) ?_
            refine va_get (D := (dC, dI)) (ci := 11) (v := .ref (ρ h0 4)) (C := RX11) (T := TX11) (N := 7) hx hb hts hfX11 hown hK hP q56 eq56 rfl 4 (by decide) (hts (.fieldLink RX11 39 "ColdShips" "reckoner" "LColdShips$Reckoner;") wa_28) (fun _ h9 => h9) rfl dX11_due_100 ?_
            refine va_getN (D := (dC, dI)) (ci := 3) (v := .long o57_x5) (C := RX3) (T := TX3) (N := 6) hx hb hts hfX3 hown hK hP q58 eq58 rfl 5 (by decide) (va_Nw.use rfl (hN.1 (.fieldLinkNest RX11 291 "ColdShips$Reckoner" "fines" "J" "ColdShips") nzw_92)) (fun _ h9 => h9) rfl dX11_due_103 ?_
            refine lv_lsub hx hb dX11_due_106 ?_
            refine lv_topl (fun z59 ez59 => ?_)
            exact W.lret (v := z59) hx hb hr (fun t ht hW => ⟨⟨z59, f52, rfl, ⟨hT, hR, trivial, trivial⟩, by rw [ht]; exact hP, va_K.moved hW.alike hK, hD⟩, hS.F ht⟩) hS.2.2 dX11_due_107
          · refine lv_tableIn (tgt := 108) hx hb dX11_due_56 (by omega) (by omega) (by rw [h54k]; rfl) (by decide) ?_
            refine lv_aload_n hx hb dX11_due_108 rfl (lv_at hl 0 rfl) ?_
            have hf_60 : f52 h0 = .inr (11, [.ref (ρ h0 0), .ref (ρ h0 1), .ref (ρ h0 2), .ref (ρ h0 3), .ref (ρ h0 4), .ref (ρ h0 5), .int o8_x6]) := (hF53 _ (by rw [ht_h0]; decide)).trans hf_o8
            refine tpk_pos (tp_in hG ht_h0 (by decide)) hf_60 (fun q61 eq61 => ?_)
            refine va_get (D := (dC, dI)) (ci := 11) (v := .ref (ρ h0 4)) (C := RX11) (T := TX11) (N := 7) hx hb hts hfX11 hown hK hP q61 eq61 rfl 4 (by decide) (hts (.fieldLink RX11 39 "ColdShips" "reckoner" "LColdShips$Reckoner;") wa_28) (fun _ h9 => h9) rfl dX11_due_109 ?_
            refine tpk_4 hT y5 (fun o62_x3 o62_x4 o62_x5 hf_o62 ro62_0 => ?_)
            refine tpk_pos (tp_in hG y5 (by decide)) hf_o62 (fun q63 eq63 => ?_)
            refine va_getN (D := (dC, dI)) (ci := 3) (v := .long o62_x4) (C := RX3) (T := TX3) (N := 6) hx hb hts hfX3 hown hK hP q63 eq63 rfl 4 (by decide) (va_Nw.use rfl (hN.1 (.fieldLinkNest RX11 287 "ColdShips$Reckoner" "pays" "J" "ColdShips") nzw_91)) (fun _ h9 => h9) rfl dX11_due_112 ?_
            exact W.lret (v := o62_x4) hx hb hr (fun t ht hW => ⟨⟨o62_x4, f52, rfl, ⟨hT, hR, trivial, trivial⟩, by rw [ht]; exact hP, va_K.moved hW.alike hK, hD⟩, hS.F ht⟩) hS.2.2 dX11_due_115
          · refine lv_tableIn (tgt := 116) hx hb dX11_due_56 (by omega) (by omega) (by rw [h54k]; rfl) (by decide) ?_
            refine lv_aload_n hx hb dX11_due_116 rfl (lv_at hl 0 rfl) ?_
            have hf_64 : f52 h0 = .inr (11, [.ref (ρ h0 0), .ref (ρ h0 1), .ref (ρ h0 2), .ref (ρ h0 3), .ref (ρ h0 4), .ref (ρ h0 5), .int o8_x6]) := (hF53 _ (by rw [ht_h0]; decide)).trans hf_o8
            refine tpk_pos (tp_in hG ht_h0 (by decide)) hf_64 (fun q65 eq65 => ?_)
            refine va_get (D := (dC, dI)) (ci := 11) (v := .ref (ρ h0 4)) (C := RX11) (T := TX11) (N := 7) hx hb hts hfX11 hown hK hP q65 eq65 rfl 4 (by decide) (hts (.fieldLink RX11 39 "ColdShips" "reckoner" "LColdShips$Reckoner;") wa_28) (fun _ h9 => h9) rfl dX11_due_117 ?_
            refine tpk_4 hT y5 (fun o66_x3 o66_x4 o66_x5 hf_o66 ro66_0 => ?_)
            refine tpk_pos (tp_in hG y5 (by decide)) hf_o66 (fun q67 eq67 => ?_)
            refine va_getN (D := (dC, dI)) (ci := 3) (v := .long o66_x5) (C := RX3) (T := TX3) (N := 6) hx hb hts hfX3 hown hK hP q67 eq67 rfl 5 (by decide) (va_Nw.use rfl (hN.1 (.fieldLinkNest RX11 291 "ColdShips$Reckoner" "fines" "J" "ColdShips") nzw_92)) (fun _ h9 => h9) rfl dX11_due_120 ?_
            exact W.lret (v := o66_x5) hx hb hr (fun t ht hW => ⟨⟨o66_x5, f52, rfl, ⟨hT, hR, trivial, trivial⟩, by rw [ht]; exact hP, va_K.moved hW.alike hK, hD⟩, hS.F ht⟩) hS.2.2 dX11_due_123
          · refine lv_tableIn (tgt := 124) hx hb dX11_due_56 (by omega) (by omega) (by rw [h54k]; rfl) (by decide) ?_
            refine lv_aload_n hx hb dX11_due_124 rfl (lv_at hl 0 rfl) ?_
            have hf_68 : f52 h0 = .inr (11, [.ref (ρ h0 0), .ref (ρ h0 1), .ref (ρ h0 2), .ref (ρ h0 3), .ref (ρ h0 4), .ref (ρ h0 5), .int o8_x6]) := (hF53 _ (by rw [ht_h0]; decide)).trans hf_o8
            refine tpk_pos (tp_in hG ht_h0 (by decide)) hf_68 (fun q69 eq69 => ?_)
            refine va_get (D := (dC, dI)) (ci := 11) (v := .ref (ρ h0 4)) (C := RX11) (T := TX11) (N := 7) hx hb hts hfX11 hown hK hP q69 eq69 rfl 4 (by decide) (hts (.fieldLink RX11 39 "ColdShips" "reckoner" "LColdShips$Reckoner;") wa_28) (fun _ h9 => h9) rfl dX11_due_125 ?_
            refine tpk_4 hT y5 (fun o70_x3 o70_x4 o70_x5 hf_o70 ro70_0 => ?_)
            refine tpk_pos (tp_in hG y5 (by decide)) hf_o70 (fun q71 eq71 => ?_)
            refine va_getN (D := (dC, dI)) (ci := 3) (v := .ref (ρ (ρ h0 4) 1)) (C := RX3) (T := TX3) (N := 6) hx hb hts hfX3 hown hK hP q71 eq71 rfl 1 (by decide) (va_Nw.use rfl (hN.1 (.fieldLinkNest RX11 294 "ColdShips$Reckoner" "facts" "[J" "ColdShips") nzw_90)) (fun _ h9 => h9) rfl dX11_due_128 ?_
            refine lv_iconst (v := 3) hx hb dX11_due_131 (by decide) ?_
            refine tpk_21 hT y46 y46n (fun g73 hf_o72 => ?_)
            refine tpk_pos (tp_in hG y46 (by decide)) hf_o72 (fun q74 eq74 => ?_)
            refine va_lald hx hb hK hP q74 1 eq74 rfl (vp_in_iff.mpr ⟨by decide, by decide⟩) dX11_due_132 ?_
            refine lv_topl (fun z75 ez75 => ?_)
            exact W.lret (v := z75) hx hb hr (fun t ht hW => ⟨⟨z75, f52, rfl, ⟨hT, hR, trivial, trivial⟩, by rw [ht]; exact hP, va_K.moved hW.alike hK, hD⟩, hS.F ht⟩) hS.2.2 dX11_due_133
          · refine lv_tableIn (tgt := 134) hx hb dX11_due_56 (by omega) (by omega) (by rw [h54k]; rfl) (by decide) ?_
            refine lv_aload_n hx hb dX11_due_134 rfl (lv_at hl 0 rfl) ?_
            have hf_76 : f52 h0 = .inr (11, [.ref (ρ h0 0), .ref (ρ h0 1), .ref (ρ h0 2), .ref (ρ h0 3), .ref (ρ h0 4), .ref (ρ h0 5), .int o8_x6]) := (hF53 _ (by rw [ht_h0]; decide)).trans hf_o8
            refine tpk_pos (tp_in hG ht_h0 (by decide)) hf_76 (fun q77 eq77 => ?_)
            refine va_get (D := (dC, dI)) (ci := 11) (v := .ref (ρ h0 4)) (C := RX11) (T := TX11) (N := 7) hx hb hts hfX11 hown hK hP q77 eq77 rfl 4 (by decide) (hts (.fieldLink RX11 39 "ColdShips" "reckoner" "LColdShips$Reckoner;") wa_28) (fun _ h9 => h9) rfl dX11_due_135 ?_
            refine tpk_4 hT y5 (fun o78_x3 o78_x4 o78_x5 hf_o78 ro78_0 => ?_)
            refine tpk_pos (tp_in hG y5 (by decide)) hf_o78 (fun q79 eq79 => ?_)
            refine va_getN (D := (dC, dI)) (ci := 3) (v := .ref (ρ (ρ h0 4) 1)) (C := RX3) (T := TX3) (N := 6) hx hb hts hfX3 hown hK hP q79 eq79 rfl 1 (by decide) (va_Nw.use rfl (hN.1 (.fieldLinkNest RX11 294 "ColdShips$Reckoner" "facts" "[J" "ColdShips") nzw_90)) (fun _ h9 => h9) rfl dX11_due_138 ?_
            refine lv_iconst (v := 5) hx hb dX11_due_141 (by decide) ?_
            refine tpk_21 hT y46 y46n (fun g81 hf_o80 => ?_)
            refine tpk_pos (tp_in hG y46 (by decide)) hf_o80 (fun q82 eq82 => ?_)
            refine va_lald hx hb hK hP q82 1 eq82 rfl (vp_in_iff.mpr ⟨by decide, by decide⟩) dX11_due_142 ?_
            refine lv_topl (fun z83 ez83 => ?_)
            exact W.lret (v := z83) hx hb hr (fun t ht hW => ⟨⟨z83, f52, rfl, ⟨hT, hR, trivial, trivial⟩, by rw [ht]; exact hP, va_K.moved hW.alike hK, hD⟩, hS.F ht⟩) hS.2.2 dX11_due_143
      · have ic42 : r40.toInt = 0 := zi_nef rfl rfl c42
        clear hw41r ic42
        refine lv_ldc2 (own := RX11) (v := (-2000000000000000)) hx hb hown (hts (.constantLong RX11 281 (-2000000000000000)) wa_1124) dX11_due_32 ?_
        exact W.lret (v := (-2000000000000000)) hx hb hr (fun t ht hW => ⟨⟨(-2000000000000000), f, rfl, ⟨hT, hR, trivial, trivial⟩, by rw [ht]; exact hP, va_K.moved hW.alike hK, hD⟩, hS.F ht⟩) hS.2.2 dX11_due_35
set_option maxHeartbeats 4000000 in
set_option maxRecDepth 100000 in
theorem t_X11_settle (l : Launch) (dC : Nat → ClassId) (dI : Nat → Nat → Nat) (sz : Nat) (Ω : Nat → Nat → (Nat → Nat) → va_E → Prop) (κ : Nat → ClassId) (τ ν : Nat → Nat) (ρ : Nat → Nat → Nat) (L : List Nat) (f : Nat → va_E) (hG : tp_G τ ν ρ L) (hT : tp_T Ω κ τ ν ρ f) (h0 : Nat) (v : Int32) (u : Int32) (ht_h0 : τ h0 = 12) : Met l yX11_settle wqX11_settle ({ frames := 7, cells := 0, slots := 0, locals := 2400 }) (va_Pc [.ref h0, .int v, .int u] (pz_B dC dI (tp_K κ) (va_pl L f) sz)) (va_Qi (fun (r : Int32) (f1 : Nat → va_E) => tp_T Ω κ τ ν ρ f1 ∧ tp_F τ [4, 12, 21] f f1 ∧ True ∧ True) (fun (f1 : Nat → va_E) (t : State) => pz_E dC dI (tp_K κ) (va_A (va_pl L f) sz) (va_pl L f1) t) (va_A (va_pl L f) sz)) 0 0 (va_A (va_pl L f) sz) := by
  refine Met.ofW (cc := cX11_settle) (maxL := 3) (ret := some .int) (by decide) rfl ?_
  intro p e s m args below meth c s₁ B hml hv
  obtain ⟨rfl, hsz, hP, hK, hD0, hN⟩ := hv
  have hx := B.exec
  have hb := B.bytes
  have hr := B.returns
  have hts := fun (w : Cond) (h : w ∈ WALL) => atoms_spec (ws := wqX11_settle) B.pre w (List.mem_cons_of_mem _ h)
  have hown : s.vm.findClass RX11 = some m.cls := findClass_of_methodNamed B.named
  have hlocks := B.notSynchronized
  subst hsz
  have hD := hD0.self (sz := s.heap.size)
  generalize hAe : va_A (va_pl L f) s.heap.size = A at hD ⊢
  have hA : ∀ q : Nat, s.heap.size ≤ q → A q := fun q h => by rw [← hAe]; exact Or.inr h
  have hS : va_S A s.heap s.heap [] := va_S.rf
  have hR : tp_F τ [4, 12, 21] f f := tp_F.rf
  have hl := lv_entry ([.ref h0, .int v, .int u]) (n := 3) (Nat.le_of_ble_eq_true rfl)
  rw [lg_entry_eq]
  generalize (lg_sl ([.ref h0, .int v, .int u]) ++ List.replicate (3 - (lg_sl ([.ref h0, .int v, .int u])).length) Slot.unset).toArray = ls at hl ⊢
  have hl : lv_has ls 3 [(0, .ref h0), (1, .int v), (2, .int u)] := hl
  refine lv_aload_n hx hb dX11_settle_0 rfl (lv_at hl 0 rfl) ?_
  refine tgk_12 hG ht_h0 (fun y1 y1l y2 y3 y4 y5 y6 y7a y7b y7c => ?_)
  refine tpk_12 hT ht_h0 (fun o8_x6 hf_o8 => ?_)
  refine tpk_pos (tp_in hG ht_h0 (by decide)) hf_o8 (fun q9 eq9 => ?_)
  refine va_get (D := (dC, dI)) (ci := 11) (v := .ref (ρ h0 0)) (C := RX11) (T := TX11) (N := 7) hx hb hts hfX11 hown hK hP q9 eq9 rfl 0 (by decide) (hts (.fieldLink RX11 10 "ColdShips" "world" "LColdShips$World;") wa_15) (fun _ h9 => h9) rfl dX11_settle_1 ?_
  refine tgk_11 hG y1 (fun y10 y10n y11 y11n y12 y13 y14 y15 y15m y15l y16 y16m y16l y17 y17m y17l y18 y18w y18m y18l y19 y19w y19m y19l y20 y20w y20m y20l y21 y21w y21m y21l => ?_)
  refine tpk_11 hT y1 (fun o22_x0 o22_x1 o22_x2 o22_x3 o22_x4 o22_x5 o22_x6 hf_o22 ro22_0 ro22_1 ro22_2 ro22_3 => ?_)
  refine tpk_pos (tp_in hG y1 (by decide)) hf_o22 (fun q23 eq23 => ?_)
  refine va_getN (D := (dC, dI)) (ci := 10) (v := .ref (ρ (ρ h0 0) 17)) (C := RX10) (T := TX10) (N := 19) hx hb hts hfX10 hown hK hP q23 eq23 rfl 17 (by decide) (va_Nw.use rfl (hN.1 (.fieldLinkNest RX11 207 "ColdShips$World" "landings" "LColdShips$Rows;" "ColdShips") nzw_85)) (fun _ h9 => h9) rfl dX11_settle_4 ?_
  refine lv_iload_n hx hb dX11_settle_7 rfl (lv_at hl 1 rfl) ?_
  refine tgk_5 hG y20 (fun y24 y24n y25a y25b y25c => ?_)
  refine tpk_5 hT y20 (fun o26_x0 o26_x2 hf_o26 ro26_0 ro26_1 => ?_)
  refine tpk_pos (tp_in hG y20 (by decide)) hf_o26 (fun q27 eq27 => ?_)
  have ro26_0 := tp_hu ro26_0; have ro26_1 := tp_hu ro26_1
  refine pz_calli (va_runV (As := [.int v]) (rest := []) ⟨hx, hb, hml, hown, hts⟩ (t_X4_has l dC dI _ Ω κ τ ν ρ L f hG hT (ρ (ρ h0 0) 17) v y20 o26_x0 o26_x2 hf_o26) (cwV 1 hts gX11_settle_X4_has rfl rfl rfl ⟨rfl, pd_X4_has⟩ ⟨Nat.le_of_ble_eq_true rfl, Nat.le_of_ble_eq_true rfl⟩) ⟨pz_blind, va_recv hK hP (ci := 4) (q0 := q27) rfl eq27, pz_pre hP hK hD hN⟩ rfl rfl hl.1 rfl (lv_room (Nat.le_of_ble_eq_true rfl)) dX11_settle_8 ⟨Nat.le_of_ble_eq_true rfl, Nat.le_of_ble_eq_true rfl⟩) (fun r28 hw29 => ?_)
  obtain ⟨hw29r, hw29p⟩ := hw29
  refine lv_if_eq (tgt := 25) hx hb dX11_settle_11 (by decide) (fun c30 => ?_) (fun c30 => ?_)
  · have ic30 : r28.toInt = 0 := zi_eq rfl rfl c30
    clear hw29r ic30
    refine lv_aload_n hx hb dX11_settle_25 rfl (lv_at hl 0 rfl) ?_
    refine lv_bipush (v := (-2)) hx hb dX11_settle_26 (by decide) ?_
    have hFc := tp_fr hD hS hA
    refine va_calli (va_runV (As := [.int (-2)]) (rest := []) ⟨hx, hb, hml, hown, hts⟩ (t_X11_refuse l dC dI _ Ω κ τ ν ρ L f hG hT h0 ((-2)) ht_h0) (cwV 1 hts gX11_settle_X11_refuse rfl rfl rfl ⟨rfl, pd_X11_refuse⟩ ⟨Nat.le_of_ble_eq_true rfl, Nat.le_of_ble_eq_true rfl⟩) ⟨pz_blind, va_recv hK hP (ci := 11) (q0 := q9) rfl eq9, pz_pre hP hK hD hN⟩ rfl rfl hl.1 rfl (lv_room (Nat.le_of_ble_eq_true rfl)) dX11_settle_28 ⟨Nat.le_of_ble_eq_true rfl, Nat.le_of_ble_eq_true rfl⟩) hS (fun q _ h => hFc q h) hFc (fun r31 f33 t H1 locs ht hvm hw32 hB hz1 hk1 hS => ?_)
    refine tn_4 hw32 (fun hT hF34 hw32r hw32p => ?_); clear hw32
    have hR := hR.then hF34 (by decide)
    have hP := hB.1; rw [ht] at hP; have hD := tp_ad f33 hD; clear hB hFc hz1 hk1; subst ht; generalize t.heap = H at hP hS ⊢
    have hw32pq : r31.toInt = (-2) := by rw [hw32p]; rfl
    exact W.iret (v := r31) hx hb hr (fun t ht hW => ⟨⟨r31, f33, rfl, ⟨hT, hR, trivial, trivial⟩, by rw [ht]; exact hP, va_K.moved hW.alike hK, hD⟩, hS.F ht⟩) hS.2.2 dX11_settle_31
  · have ic30 : r28.toInt ≠ 0 := zi_eqf rfl rfl c30
    have p35 : 0 ≤ v.toInt ∧ v.toInt < o26_x2.toInt := (tp_cond.yes hw29p) (by omega)
    clear hw29r ic30
    refine lv_aload_n hx hb dX11_settle_14 rfl (lv_at hl 0 rfl) ?_
    refine va_get (D := (dC, dI)) (ci := 11) (v := .ref (ρ h0 0)) (C := RX11) (T := TX11) (N := 7) hx hb hts hfX11 hown hK hP q9 eq9 rfl 0 (by decide) (hts (.fieldLink RX11 10 "ColdShips" "world" "LColdShips$World;") wa_15) (fun _ h9 => h9) rfl dX11_settle_15 ?_
    refine lv_iload_n hx hb dX11_settle_18 rfl (lv_at hl 2 rfl) ?_
    refine tpk_26 hT y14 (fun g37 hf_o36 hf_o36e => ?_)
    have ro22_0 := tp_hu ro22_0; have ro22_1 := tp_hu ro22_1; have ro22_2 := tp_hu ro22_2; have ro22_3 := tp_hu ro22_3
    refine pz_calli (va_runV (As := [.int u]) (rest := []) ⟨hx, hb, hml, hown, hts⟩ (t_X10_hasContract l dC dI _ Ω κ τ ν ρ L f hG hT (ρ h0 0) u y1 o22_x0 o22_x1 o22_x2 o22_x3 o22_x4 o22_x5 o22_x6 hf_o22 g37 hf_o36) (cwV 1 hts gX11_settle_X10_hasContract rfl rfl rfl ⟨rfl, pd_X10_hasContract⟩ ⟨Nat.le_of_ble_eq_true rfl, Nat.le_of_ble_eq_true rfl⟩) ⟨pz_blind, va_recv hK hP (ci := 10) (q0 := q23) rfl eq23, pz_pre hP hK hD hN⟩ rfl rfl hl.1 rfl (lv_room (Nat.le_of_ble_eq_true rfl)) dX11_settle_19 ⟨Nat.le_of_ble_eq_true rfl, Nat.le_of_ble_eq_true rfl⟩) (fun r38 hw39 => ?_)
    obtain ⟨hw39r, hw39p⟩ := hw39
    refine lv_if_ne (tgt := 32) hx hb dX11_settle_22 (by decide) (fun c40 => ?_) (fun c40 => ?_)
    · have ic40 : r38.toInt ≠ 0 := zi_ne rfl rfl c40
      have p41 : ((0 ≤ u.toInt ∧ u.toInt ≤ 11) ∧ ∃ b : Nat, g37 u.toNatClampNeg = some b ∧ τ b = 1) := hw39p (by omega)
      obtain ⟨p41, b42, hq43, hq43t⟩ := p41
      refine lv_aload_n hx hb dX11_settle_32 rfl (lv_at hl 0 rfl) ?_
      refine va_get (D := (dC, dI)) (ci := 11) (v := .ref (ρ h0 0)) (C := RX11) (T := TX11) (N := 7) hx hb hts hfX11 hown hK hP q9 eq9 rfl 0 (by decide) (hts (.fieldLink RX11 10 "ColdShips" "world" "LColdShips$World;") wa_15) (fun _ h9 => h9) rfl dX11_settle_33 ?_
      refine lv_iload_n hx hb dX11_settle_36 rfl (lv_at hl 1 rfl) ?_
      refine pz_calli (va_runV (As := [.int v]) (rest := []) ⟨hx, hb, hml, hown, hts⟩ (t_X10_isSettled l dC dI _ Ω κ τ ν ρ L f hG hT (ρ h0 0) v y1) (cwV 1 hts gX11_settle_X10_isSettled rfl rfl rfl ⟨rfl, pd_X10_isSettled⟩ ⟨Nat.le_of_ble_eq_true rfl, Nat.le_of_ble_eq_true rfl⟩) ⟨pz_blind, va_recv hK hP (ci := 10) (q0 := q23) rfl eq23, pz_pre hP hK hD hN⟩ rfl rfl hl.1 rfl (lv_room (Nat.le_of_ble_eq_true rfl)) dX11_settle_37 ⟨Nat.le_of_ble_eq_true rfl, Nat.le_of_ble_eq_true rfl⟩) (fun r44 hw45 => ?_)
      obtain ⟨hw45r, hw45p⟩ := hw45
      refine lv_if_eq (tgt := 50) hx hb dX11_settle_40 (by decide) (fun c46 => ?_) (fun c46 => ?_)
      · have ic46 : r44.toInt = 0 := zi_eq rfl rfl c46
        refine lv_aload_n hx hb dX11_settle_50 rfl (lv_at hl 0 rfl) ?_
        refine va_get (D := (dC, dI)) (ci := 11) (v := .ref (ρ h0 4)) (C := RX11) (T := TX11) (N := 7) hx hb hts hfX11 hown hK hP q9 eq9 rfl 4 (by decide) (hts (.fieldLink RX11 39 "ColdShips" "reckoner" "LColdShips$Reckoner;") wa_28) (fun _ h9 => h9) rfl dX11_settle_51 ?_
        refine lv_iload_n hx hb dX11_settle_54 rfl (lv_at hl 1 rfl) ?_
        refine lv_aload_n hx hb dX11_settle_55 rfl (lv_at hl 0 rfl) ?_
        refine va_get (D := (dC, dI)) (ci := 11) (v := .ref (ρ h0 0)) (C := RX11) (T := TX11) (N := 7) hx hb hts hfX11 hown hK hP q9 eq9 rfl 0 (by decide) (hts (.fieldLink RX11 10 "ColdShips" "world" "LColdShips$World;") wa_15) (fun _ h9 => h9) rfl dX11_settle_56 ?_
        refine va_getN (D := (dC, dI)) (ci := 10) (v := .ref (ρ (ρ h0 0) 11)) (C := RX10) (T := TX10) (N := 19) hx hb hts hfX10 hown hK hP q23 eq23 rfl 11 (by decide) (va_Nw.use rfl (hN.1 (.fieldLinkNest RX11 271 "ColdShips$World" "contracts" "[LColdShips$Contract;" "ColdShips") nzw_72)) (fun _ h9 => h9) rfl dX11_settle_59 ?_
        refine lv_iload_n hx hb dX11_settle_62 rfl (lv_at hl 2 rfl) ?_
        refine tpk_pos (tp_in hG y14 (by decide)) hf_o36 (fun q47 eq47 => ?_)
        refine va_aldq hx hb hK hP q47 6 eq47 rfl (vp_in_iff.mpr ⟨by omega, by omega⟩) dX11_settle_63 ?_
        refine W.eq (g2 := F0 m 64 ls (.ref b42 :: [.int v, .ref (ρ h0 4)])) (congrArg (fun o => F0 m 64 ls (va_rf o :: [.int v, .ref (ρ h0 4)])) hq43) ?_
        refine lv_aload_n hx hb dX11_settle_64 rfl (lv_at hl 0 rfl) ?_
        refine va_get (D := (dC, dI)) (ci := 11) (v := .ref (ρ h0 0)) (C := RX11) (T := TX11) (N := 7) hx hb hts hfX11 hown hK hP q9 eq9 rfl 0 (by decide) (hts (.fieldLink RX11 10 "ColdShips" "world" "LColdShips$World;") wa_15) (fun _ h9 => h9) rfl dX11_settle_65 ?_
        refine va_getN (D := (dC, dI)) (ci := 10) (v := .int o22_x0) (C := RX10) (T := TX10) (N := 19) hx hb hts hfX10 hown hK hP q23 eq23 rfl 0 (by decide) (va_Nw.use rfl (hN.1 (.fieldLinkNest RX11 154 "ColdShips$World" "now" "I" "ColdShips") nzw_49)) (fun _ h9 => h9) rfl dX11_settle_68 ?_
        refine tgk_4 hG y5 (fun y48 y48l y49 y49n y50 y50n => ?_)
        refine tpk_4 hT y5 (fun o51_x3 o51_x4 o51_x5 hf_o51 ro51_0 => ?_)
        refine tpk_pos (tp_in hG y5 (by decide)) hf_o51 (fun q52 eq52 => ?_)
        have hFc := tp_fr hD hS hA
        refine va_callv (va_runV (As := [.int v, .ref b42, .int o22_x0]) (rest := []) ⟨hx, hb, hml, hown, hts⟩ (t_X3_reckon l dC dI _ Ω κ τ ν ρ L f hG hT (ρ h0 4) v b42 o22_x0 y5 hq43t) (cwV 3 hts gX11_settle_X3_reckon rfl rfl rfl ⟨rfl, pd_X3_reckon⟩ ⟨Nat.le_of_ble_eq_true rfl, Nat.le_of_ble_eq_true rfl⟩) ⟨pz_blind, va_recv hK hP (ci := 3) (q0 := q52) rfl eq52, pz_pre hP hK hD hN⟩ rfl rfl hl.1 rfl (lv_room (Nat.le_of_ble_eq_true rfl)) dX11_settle_71 ⟨Nat.le_of_ble_eq_true rfl, Nat.le_of_ble_eq_true rfl⟩) hS (fun q _ h => hFc q h) hFc (fun f55 t H1 locs ht hvm hw54 hB hz1 hk1 hS => ?_)
        refine tn_3 hw54 (fun hT hF56 hw54p => ?_); clear hw54
        have hR := hR.then hF56 (by decide)
        have hP := hB.1; rw [ht] at hP; have hD := tp_ad f55 hD; clear hB hFc hz1 hk1; subst ht; generalize t.heap = H at hP hS ⊢
        refine lv_aload_n hx hb dX11_settle_74 rfl (lv_at hl 0 rfl) ?_
        have hf_57 : f55 h0 = .inr (11, [.ref (ρ h0 0), .ref (ρ h0 1), .ref (ρ h0 2), .ref (ρ h0 3), .ref (ρ h0 4), .ref (ρ h0 5), .int o8_x6]) := (hF56 _ (by rw [ht_h0]; decide)).trans hf_o8
        refine tpk_pos (tp_in hG ht_h0 (by decide)) hf_57 (fun q58 eq58 => ?_)
        refine va_get (D := (dC, dI)) (ci := 11) (v := .ref (ρ h0 0)) (C := RX11) (T := TX11) (N := 7) hx hb hts hfX11 hown hK hP q58 eq58 rfl 0 (by decide) (hts (.fieldLink RX11 10 "ColdShips" "world" "LColdShips$World;") wa_15) (fun _ h9 => h9) rfl dX11_settle_75 ?_
        have hf_59 : f55 (ρ h0 0) = .inr (10, [.int o22_x0, .int o22_x1, .int o22_x2, .int o22_x3, .int o22_x4, .int o22_x5, .int o22_x6, .ref (ρ (ρ h0 0) 7), .ref (ρ (ρ h0 0) 8), .ref (ρ (ρ h0 0) 9), .ref (ρ (ρ h0 0) 10), .ref (ρ (ρ h0 0) 11), .ref (ρ (ρ h0 0) 12), .ref (ρ (ρ h0 0) 13), .ref (ρ (ρ h0 0) 14), .ref (ρ (ρ h0 0) 15), .ref (ρ (ρ h0 0) 16), .ref (ρ (ρ h0 0) 17), .ref (ρ (ρ h0 0) 18)]) := (hF56 _ (by rw [tp_iu y1]; decide)).trans hf_o22
        refine tpk_pos (tp_in hG y1 (by decide)) hf_59 (fun q60 eq60 => ?_)
        refine va_getN (D := (dC, dI)) (ci := 10) (v := .ref (ρ (ρ h0 0) 17)) (C := RX10) (T := TX10) (N := 19) hx hb hts hfX10 hown hK hP q60 eq60 rfl 17 (by decide) (va_Nw.use rfl (hN.1 (.fieldLinkNest RX11 207 "ColdShips$World" "landings" "LColdShips$Rows;" "ColdShips") nzw_85)) (fun _ h9 => h9) rfl dX11_settle_78 ?_
        refine lv_iload_n hx hb dX11_settle_81 rfl (lv_at hl 1 rfl) ?_
        refine lv_bipush (v := 12) hx hb dX11_settle_82 (by decide) ?_
        refine lv_iload_n hx hb dX11_settle_84 rfl (lv_at hl 2 rfl) ?_
        refine lv_i2l hx hb dX11_settle_85 rfl ?_
        have hf_61 : f55 (ρ (ρ h0 0) 17) = .inr (4, [.int o26_x0, .ref (ρ (ρ (ρ h0 0) 17) 1), .int o26_x2]) := (hF56 _ (by rw [tp_iu y20]; decide)).trans hf_o26
        refine tpk_pos (tp_in hG y20 (by decide)) hf_61 (fun q62 eq62 => ?_)
        have hFc := tp_fr hD hS hA
        refine va_callv (va_runV (As := [.int v, .int 12, .long u.toInt64]) (rest := []) ⟨hx, hb, hml, hown, hts⟩ (t_X4_set l dC dI _ Ω κ τ ν ρ L f55 hG hT (ρ (ρ h0 0) 17) v (12) u.toInt64 y20 o26_x0 o26_x2 hf_61) (cwV 3 hts gX11_settle_X4_set rfl rfl rfl ⟨rfl, pd_X4_set⟩ ⟨Nat.le_of_ble_eq_true rfl, Nat.le_of_ble_eq_true rfl⟩) ⟨pz_blind, va_recv hK hP (ci := 4) (q0 := q62) rfl eq62, pz_pre hP hK hD hN⟩ rfl rfl hl.1 rfl (lv_room (Nat.le_of_ble_eq_true rfl)) dX11_settle_86 ⟨Nat.le_of_ble_eq_true rfl, Nat.le_of_ble_eq_true rfl⟩) hS (fun q _ h => hFc q h) hFc (fun f65 t H1 locs ht hvm hw64 hB hz1 hk1 hS => ?_)
        refine tn_3 hw64 (fun hT hF66 hw64p => ?_); clear hw64
        have hR := hR.then hF66 (by decide)
        have hP := hB.1; rw [ht] at hP; have hD := tp_ad f65 hD; clear hB hFc hz1 hk1; subst ht; generalize t.heap = H at hP hS ⊢
        refine lv_aload_n hx hb dX11_settle_89 rfl (lv_at hl 0 rfl) ?_
        have hf_67 : f65 h0 = .inr (11, [.ref (ρ h0 0), .ref (ρ h0 1), .ref (ρ h0 2), .ref (ρ h0 3), .ref (ρ h0 4), .ref (ρ h0 5), .int o8_x6]) := (hF66 _ (by rw [ht_h0]; decide)).trans hf_57
        refine tpk_pos (tp_in hG ht_h0 (by decide)) hf_67 (fun q68 eq68 => ?_)
        refine va_get (D := (dC, dI)) (ci := 11) (v := .ref (ρ h0 0)) (C := RX11) (T := TX11) (N := 7) hx hb hts hfX11 hown hK hP q68 eq68 rfl 0 (by decide) (hts (.fieldLink RX11 10 "ColdShips" "world" "LColdShips$World;") wa_15) (fun _ h9 => h9) rfl dX11_settle_90 ?_
        have hf_69 : f65 (ρ h0 0) = .inr (10, [.int o22_x0, .int o22_x1, .int o22_x2, .int o22_x3, .int o22_x4, .int o22_x5, .int o22_x6, .ref (ρ (ρ h0 0) 7), .ref (ρ (ρ h0 0) 8), .ref (ρ (ρ h0 0) 9), .ref (ρ (ρ h0 0) 10), .ref (ρ (ρ h0 0) 11), .ref (ρ (ρ h0 0) 12), .ref (ρ (ρ h0 0) 13), .ref (ρ (ρ h0 0) 14), .ref (ρ (ρ h0 0) 15), .ref (ρ (ρ h0 0) 16), .ref (ρ (ρ h0 0) 17), .ref (ρ (ρ h0 0) 18)]) := (hF66 _ (by rw [tp_iu y1]; decide)).trans hf_59
        refine tpk_pos (tp_in hG y1 (by decide)) hf_69 (fun q70 eq70 => ?_)
        refine va_getN (D := (dC, dI)) (ci := 10) (v := .ref (ρ (ρ h0 0) 17)) (C := RX10) (T := TX10) (N := 19) hx hb hts hfX10 hown hK hP q70 eq70 rfl 17 (by decide) (va_Nw.use rfl (hN.1 (.fieldLinkNest RX11 207 "ColdShips$World" "landings" "LColdShips$Rows;" "ColdShips") nzw_85)) (fun _ h9 => h9) rfl dX11_settle_93 ?_
        refine lv_iload_n hx hb dX11_settle_96 rfl (lv_at hl 1 rfl) ?_
        refine lv_bipush (v := 13) hx hb dX11_settle_97 (by decide) ?_
        refine lv_aload_n hx hb dX11_settle_99 rfl (lv_at hl 0 rfl) ?_
        refine va_get (D := (dC, dI)) (ci := 11) (v := .ref (ρ h0 4)) (C := RX11) (T := TX11) (N := 7) hx hb hts hfX11 hown hK hP q68 eq68 rfl 4 (by decide) (hts (.fieldLink RX11 39 "ColdShips" "reckoner" "LColdShips$Reckoner;") wa_28) (fun _ h9 => h9) rfl dX11_settle_100 ?_
        refine tpk_4 hT y5 (fun o71_x3 o71_x4 o71_x5 hf_o71 ro71_0 => ?_)
        refine tpk_pos (tp_in hG y5 (by decide)) hf_o71 (fun q72 eq72 => ?_)
        refine va_getN (D := (dC, dI)) (ci := 3) (v := .long o71_x4) (C := RX3) (T := TX3) (N := 6) hx hb hts hfX3 hown hK hP q72 eq72 rfl 4 (by decide) (va_Nw.use rfl (hN.1 (.fieldLinkNest RX11 287 "ColdShips$Reckoner" "pays" "J" "ColdShips") nzw_91)) (fun _ h9 => h9) rfl dX11_settle_103 ?_
        refine lv_aload_n hx hb dX11_settle_106 rfl (lv_at hl 0 rfl) ?_
        refine va_get (D := (dC, dI)) (ci := 11) (v := .ref (ρ h0 4)) (C := RX11) (T := TX11) (N := 7) hx hb hts hfX11 hown hK hP q68 eq68 rfl 4 (by decide) (hts (.fieldLink RX11 39 "ColdShips" "reckoner" "LColdShips$Reckoner;") wa_28) (fun _ h9 => h9) rfl dX11_settle_107 ?_
        refine va_getN (D := (dC, dI)) (ci := 3) (v := .long o71_x5) (C := RX3) (T := TX3) (N := 6) hx hb hts hfX3 hown hK hP q72 eq72 rfl 5 (by decide) (va_Nw.use rfl (hN.1 (.fieldLinkNest RX11 291 "ColdShips$Reckoner" "fines" "J" "ColdShips") nzw_92)) (fun _ h9 => h9) rfl dX11_settle_110 ?_
        refine lv_lsub hx hb dX11_settle_113 ?_
        refine lv_topl (fun z73 ez73 => ?_)
        have hf_74 : f65 (ρ (ρ h0 0) 17) = .inr (4, [.int o26_x0, .ref (ρ (ρ (ρ h0 0) 17) 1), .int o26_x2]) := (hF66 _ (by rw [tp_iu y20]; decide)).trans hf_61
        refine tpk_pos (tp_in hG y20 (by decide)) hf_74 (fun q75 eq75 => ?_)
        have hFc := tp_fr hD hS hA
        refine va_callv (va_runV (As := [.int v, .int 13, .long z73]) (rest := []) ⟨hx, hb, hml, hown, hts⟩ (t_X4_set l dC dI _ Ω κ τ ν ρ L f65 hG hT (ρ (ρ h0 0) 17) v (13) z73 y20 o26_x0 o26_x2 hf_74) (cwV 3 hts gX11_settle_X4_set rfl rfl rfl ⟨rfl, pd_X4_set⟩ ⟨Nat.le_of_ble_eq_true rfl, Nat.le_of_ble_eq_true rfl⟩) ⟨pz_blind, va_recv hK hP (ci := 4) (q0 := q75) rfl eq75, pz_pre hP hK hD hN⟩ rfl rfl hl.1 rfl (lv_room (Nat.le_of_ble_eq_true rfl)) dX11_settle_114 ⟨Nat.le_of_ble_eq_true rfl, Nat.le_of_ble_eq_true rfl⟩) hS (fun q _ h => hFc q h) hFc (fun f78 t H1 locs ht hvm hw77 hB hz1 hk1 hS => ?_)
        refine tn_3 hw77 (fun hT hF79 hw77p => ?_); clear hw77
        have hR := hR.then hF79 (by decide)
        have hP := hB.1; rw [ht] at hP; have hD := tp_ad f78 hD; clear hB hFc hz1 hk1; subst ht; generalize t.heap = H at hP hS ⊢
        refine lv_aload_n hx hb dX11_settle_117 rfl (lv_at hl 0 rfl) ?_
        have hf_80 : f78 h0 = .inr (11, [.ref (ρ h0 0), .ref (ρ h0 1), .ref (ρ h0 2), .ref (ρ h0 3), .ref (ρ h0 4), .ref (ρ h0 5), .int o8_x6]) := (hF79 _ (by rw [ht_h0]; decide)).trans hf_67
        refine tpk_pos (tp_in hG ht_h0 (by decide)) hf_80 (fun q81 eq81 => ?_)
        refine va_get (D := (dC, dI)) (ci := 11) (v := .ref (ρ h0 0)) (C := RX11) (T := TX11) (N := 7) hx hb hts hfX11 hown hK hP q81 eq81 rfl 0 (by decide) (hts (.fieldLink RX11 10 "ColdShips" "world" "LColdShips$World;") wa_15) (fun _ h9 => h9) rfl dX11_settle_118 ?_
        have hf_82 : f78 (ρ h0 0) = .inr (10, [.int o22_x0, .int o22_x1, .int o22_x2, .int o22_x3, .int o22_x4, .int o22_x5, .int o22_x6, .ref (ρ (ρ h0 0) 7), .ref (ρ (ρ h0 0) 8), .ref (ρ (ρ h0 0) 9), .ref (ρ (ρ h0 0) 10), .ref (ρ (ρ h0 0) 11), .ref (ρ (ρ h0 0) 12), .ref (ρ (ρ h0 0) 13), .ref (ρ (ρ h0 0) 14), .ref (ρ (ρ h0 0) 15), .ref (ρ (ρ h0 0) 16), .ref (ρ (ρ h0 0) 17), .ref (ρ (ρ h0 0) 18)]) := (hF79 _ (by rw [tp_iu y1]; decide)).trans hf_69
        refine tpk_pos (tp_in hG y1 (by decide)) hf_82 (fun q83 eq83 => ?_)
        refine va_getN (D := (dC, dI)) (ci := 10) (v := .ref (ρ (ρ h0 0) 17)) (C := RX10) (T := TX10) (N := 19) hx hb hts hfX10 hown hK hP q83 eq83 rfl 17 (by decide) (va_Nw.use rfl (hN.1 (.fieldLinkNest RX11 207 "ColdShips$World" "landings" "LColdShips$Rows;" "ColdShips") nzw_85)) (fun _ h9 => h9) rfl dX11_settle_121 ?_
        refine lv_iload_n hx hb dX11_settle_124 rfl (lv_at hl 1 rfl) ?_
        refine lv_bipush (v := 14) hx hb dX11_settle_125 (by decide) ?_
        refine lv_aload_n hx hb dX11_settle_127 rfl (lv_at hl 0 rfl) ?_
        refine va_get (D := (dC, dI)) (ci := 11) (v := .ref (ρ h0 0)) (C := RX11) (T := TX11) (N := 7) hx hb hts hfX11 hown hK hP q81 eq81 rfl 0 (by decide) (hts (.fieldLink RX11 10 "ColdShips" "world" "LColdShips$World;") wa_15) (fun _ h9 => h9) rfl dX11_settle_128 ?_
        refine va_getN (D := (dC, dI)) (ci := 10) (v := .int o22_x0) (C := RX10) (T := TX10) (N := 19) hx hb hts hfX10 hown hK hP q83 eq83 rfl 0 (by decide) (va_Nw.use rfl (hN.1 (.fieldLinkNest RX11 154 "ColdShips$World" "now" "I" "ColdShips") nzw_49)) (fun _ h9 => h9) rfl dX11_settle_131 ?_
        refine lv_i2l hx hb dX11_settle_134 rfl ?_
        have hf_84 : f78 (ρ (ρ h0 0) 17) = .inr (4, [.int o26_x0, .ref (ρ (ρ (ρ h0 0) 17) 1), .int o26_x2]) := (hF79 _ (by rw [tp_iu y20]; decide)).trans hf_74
        refine tpk_pos (tp_in hG y20 (by decide)) hf_84 (fun q85 eq85 => ?_)
        have hFc := tp_fr hD hS hA
        refine va_callv (va_runV (As := [.int v, .int 14, .long o22_x0.toInt64]) (rest := []) ⟨hx, hb, hml, hown, hts⟩ (t_X4_set l dC dI _ Ω κ τ ν ρ L f78 hG hT (ρ (ρ h0 0) 17) v (14) o22_x0.toInt64 y20 o26_x0 o26_x2 hf_84) (cwV 3 hts gX11_settle_X4_set rfl rfl rfl ⟨rfl, pd_X4_set⟩ ⟨Nat.le_of_ble_eq_true rfl, Nat.le_of_ble_eq_true rfl⟩) ⟨pz_blind, va_recv hK hP (ci := 4) (q0 := q85) rfl eq85, pz_pre hP hK hD hN⟩ rfl rfl hl.1 rfl (lv_room (Nat.le_of_ble_eq_true rfl)) dX11_settle_135 ⟨Nat.le_of_ble_eq_true rfl, Nat.le_of_ble_eq_true rfl⟩) hS (fun q _ h => hFc q h) hFc (fun f88 t H1 locs ht hvm hw87 hB hz1 hk1 hS => ?_)
        refine tn_3 hw87 (fun hT hF89 hw87p => ?_); clear hw87
        have hR := hR.then hF89 (by decide)
        have hP := hB.1; rw [ht] at hP; have hD := tp_ad f88 hD; clear hB hFc hz1 hk1; subst ht; generalize t.heap = H at hP hS ⊢
        refine lv_aload_n hx hb dX11_settle_138 rfl (lv_at hl 0 rfl) ?_
        refine lv_iconst (v := 0) hx hb dX11_settle_139 (by decide) ?_
        have hf_90 : f88 h0 = .inr (11, [.ref (ρ h0 0), .ref (ρ h0 1), .ref (ρ h0 2), .ref (ρ h0 3), .ref (ρ h0 4), .ref (ρ h0 5), .int o8_x6]) := (hF89 _ (by rw [ht_h0]; decide)).trans hf_80
        refine tpk_pos (tp_in hG ht_h0 (by decide)) hf_90 (fun q91 eq91 => ?_)
        have hFc := tp_fr hD hS hA
        refine va_calli (va_runV (As := [.int 0]) (rest := []) ⟨hx, hb, hml, hown, hts⟩ (t_X11_accept l dC dI _ Ω κ τ ν ρ L f88 hG hT h0 (0) ht_h0) (cwV 1 hts gX11_settle_X11_accept rfl rfl rfl ⟨rfl, pd_X11_accept⟩ ⟨Nat.le_of_ble_eq_true rfl, Nat.le_of_ble_eq_true rfl⟩) ⟨pz_blind, va_recv hK hP (ci := 11) (q0 := q91) rfl eq91, pz_pre hP hK hD hN⟩ rfl rfl hl.1 rfl (lv_room (Nat.le_of_ble_eq_true rfl)) dX11_settle_140 ⟨Nat.le_of_ble_eq_true rfl, Nat.le_of_ble_eq_true rfl⟩) hS (fun q _ h => hFc q h) hFc (fun r92 f94 t H1 locs ht hvm hw93 hB hz1 hk1 hS => ?_)
        refine tn_4 hw93 (fun hT hF95 hw93r hw93p => ?_); clear hw93
        have hR := hR.then hF95 (by decide)
        have hP := hB.1; rw [ht] at hP; have hD := tp_ad f94 hD; clear hB hFc hz1 hk1; subst ht; generalize t.heap = H at hP hS ⊢
        have hw93pq : r92.toInt = 0 := by rw [hw93p]; rfl
        exact W.iret (v := r92) hx hb hr (fun t ht hW => ⟨⟨r92, f94, rfl, ⟨hT, hR, trivial, trivial⟩, by rw [ht]; exact hP, va_K.moved hW.alike hK, hD⟩, hS.F ht⟩) hS.2.2 dX11_settle_143
      · have ic46 : r44.toInt ≠ 0 := zi_eqf rfl rfl c46
        refine lv_aload_n hx hb dX11_settle_43 rfl (lv_at hl 0 rfl) ?_
        refine lv_bipush (v := (-4)) hx hb dX11_settle_44 (by decide) ?_
        have hFc := tp_fr hD hS hA
        refine va_calli (va_runV (As := [.int (-4)]) (rest := []) ⟨hx, hb, hml, hown, hts⟩ (t_X11_refuse l dC dI _ Ω κ τ ν ρ L f hG hT h0 ((-4)) ht_h0) (cwV 1 hts gX11_settle_X11_refuse rfl rfl rfl ⟨rfl, pd_X11_refuse⟩ ⟨Nat.le_of_ble_eq_true rfl, Nat.le_of_ble_eq_true rfl⟩) ⟨pz_blind, va_recv hK hP (ci := 11) (q0 := q9) rfl eq9, pz_pre hP hK hD hN⟩ rfl rfl hl.1 rfl (lv_room (Nat.le_of_ble_eq_true rfl)) dX11_settle_46 ⟨Nat.le_of_ble_eq_true rfl, Nat.le_of_ble_eq_true rfl⟩) hS (fun q _ h => hFc q h) hFc (fun r96 f98 t H1 locs ht hvm hw97 hB hz1 hk1 hS => ?_)
        refine tn_4 hw97 (fun hT hF99 hw97r hw97p => ?_); clear hw97
        have hR := hR.then hF99 (by decide)
        have hP := hB.1; rw [ht] at hP; have hD := tp_ad f98 hD; clear hB hFc hz1 hk1; subst ht; generalize t.heap = H at hP hS ⊢
        have hw97pq : r96.toInt = (-4) := by rw [hw97p]; rfl
        exact W.iret (v := r96) hx hb hr (fun t ht hW => ⟨⟨r96, f98, rfl, ⟨hT, hR, trivial, trivial⟩, by rw [ht]; exact hP, va_K.moved hW.alike hK, hD⟩, hS.F ht⟩) hS.2.2 dX11_settle_49
    · have ic40 : r38.toInt = 0 := zi_nef rfl rfl c40
      refine lv_aload_n hx hb dX11_settle_25 rfl (lv_at hl 0 rfl) ?_
      refine lv_bipush (v := (-2)) hx hb dX11_settle_26 (by decide) ?_
      have hFc := tp_fr hD hS hA
      refine va_calli (va_runV (As := [.int (-2)]) (rest := []) ⟨hx, hb, hml, hown, hts⟩ (t_X11_refuse l dC dI _ Ω κ τ ν ρ L f hG hT h0 ((-2)) ht_h0) (cwV 1 hts gX11_settle_X11_refuse rfl rfl rfl ⟨rfl, pd_X11_refuse⟩ ⟨Nat.le_of_ble_eq_true rfl, Nat.le_of_ble_eq_true rfl⟩) ⟨pz_blind, va_recv hK hP (ci := 11) (q0 := q9) rfl eq9, pz_pre hP hK hD hN⟩ rfl rfl hl.1 rfl (lv_room (Nat.le_of_ble_eq_true rfl)) dX11_settle_28 ⟨Nat.le_of_ble_eq_true rfl, Nat.le_of_ble_eq_true rfl⟩) hS (fun q _ h => hFc q h) hFc (fun r100 f102 t H1 locs ht hvm hw101 hB hz1 hk1 hS => ?_)
      refine tn_4 hw101 (fun hT hF103 hw101r hw101p => ?_); clear hw101
      have hR := hR.then hF103 (by decide)
      have hP := hB.1; rw [ht] at hP; have hD := tp_ad f102 hD; clear hB hFc hz1 hk1; subst ht; generalize t.heap = H at hP hS ⊢
      have hw101pq : r100.toInt = (-2) := by rw [hw101p]; rfl
      exact W.iret (v := r100) hx hb hr (fun t ht hW => ⟨⟨r100, f102, rfl, ⟨hT, hR, trivial, trivial⟩, by rw [ht]; exact hP, va_K.moved hW.alike hK, hD⟩, hS.F ht⟩) hS.2.2 dX11_settle_31
set_option maxHeartbeats 4000000 in
set_option maxRecDepth 100000 in
theorem t_X11_settled (l : Launch) (dC : Nat → ClassId) (dI : Nat → Nat → Nat) (sz : Nat) (Ω : Nat → Nat → (Nat → Nat) → va_E → Prop) (κ : Nat → ClassId) (τ ν : Nat → Nat) (ρ : Nat → Nat → Nat) (L : List Nat) (f : Nat → va_E) (hG : tp_G τ ν ρ L) (hT : tp_T Ω κ τ ν ρ f) (h0 : Nat) (v : Int32) (u : Int32) (ht_h0 : τ h0 = 12) : Met l yX11_settled wqX11_settled ({ frames := 4, cells := 0, slots := 0, locals := 1200 }) (va_Pc [.ref h0, .int v, .int u] (pz_B dC dI (tp_K κ) (va_pl L f) sz)) (va_Ql (fun (r : Int64) (f1 : Nat → va_E) => tp_T Ω κ τ ν ρ f1 ∧ tp_F τ [] f f1 ∧ True ∧ True) (fun (f1 : Nat → va_E) (t : State) => pz_E dC dI (tp_K κ) (va_A (va_pl L f) sz) (va_pl L f1) t) (va_A (va_pl L f) sz)) 0 0 (va_A (va_pl L f) sz) := by
  refine Met.ofW (cc := cX11_settled) (maxL := 3) (ret := some .long) (by decide) rfl ?_
  intro p e s m args below meth c s₁ B hml hv
  obtain ⟨rfl, hsz, hP, hK, hD0, hN⟩ := hv
  have hx := B.exec
  have hb := B.bytes
  have hr := B.returns
  have hts := fun (w : Cond) (h : w ∈ WALL) => atoms_spec (ws := wqX11_settled) B.pre w (List.mem_cons_of_mem _ h)
  have hown : s.vm.findClass RX11 = some m.cls := findClass_of_methodNamed B.named
  have hlocks := B.notSynchronized
  subst hsz
  have hD := hD0.self (sz := s.heap.size)
  generalize hAe : va_A (va_pl L f) s.heap.size = A at hD ⊢
  have hA : ∀ q : Nat, s.heap.size ≤ q → A q := fun q h => by rw [← hAe]; exact Or.inr h
  have hS : va_S A s.heap s.heap [] := va_S.rf
  have hR : tp_F τ [] f f := tp_F.rf
  have hl := lv_entry ([.ref h0, .int v, .int u]) (n := 3) (Nat.le_of_ble_eq_true rfl)
  rw [lg_entry_eq]
  generalize (lg_sl ([.ref h0, .int v, .int u]) ++ List.replicate (3 - (lg_sl ([.ref h0, .int v, .int u])).length) Slot.unset).toArray = ls at hl ⊢
  have hl : lv_has ls 3 [(0, .ref h0), (1, .int v), (2, .int u)] := hl
  refine lv_aload_n hx hb dX11_settled_0 rfl (lv_at hl 0 rfl) ?_
  refine tgk_12 hG ht_h0 (fun y1 y1l y2 y3 y4 y5 y6 y7a y7b y7c => ?_)
  refine tpk_12 hT ht_h0 (fun o8_x6 hf_o8 => ?_)
  refine tpk_pos (tp_in hG ht_h0 (by decide)) hf_o8 (fun q9 eq9 => ?_)
  refine va_get (D := (dC, dI)) (ci := 11) (v := .ref (ρ h0 0)) (C := RX11) (T := TX11) (N := 7) hx hb hts hfX11 hown hK hP q9 eq9 rfl 0 (by decide) (hts (.fieldLink RX11 10 "ColdShips" "world" "LColdShips$World;") wa_15) (fun _ h9 => h9) rfl dX11_settled_1 ?_
  refine tgk_11 hG y1 (fun y10 y10n y11 y11n y12 y13 y14 y15 y15m y15l y16 y16m y16l y17 y17m y17l y18 y18w y18m y18l y19 y19w y19m y19l y20 y20w y20m y20l y21 y21w y21m y21l => ?_)
  refine tpk_11 hT y1 (fun o22_x0 o22_x1 o22_x2 o22_x3 o22_x4 o22_x5 o22_x6 hf_o22 ro22_0 ro22_1 ro22_2 ro22_3 => ?_)
  refine tpk_pos (tp_in hG y1 (by decide)) hf_o22 (fun q23 eq23 => ?_)
  refine va_getN (D := (dC, dI)) (ci := 10) (v := .ref (ρ (ρ h0 0) 17)) (C := RX10) (T := TX10) (N := 19) hx hb hts hfX10 hown hK hP q23 eq23 rfl 17 (by decide) (va_Nw.use rfl (hN.1 (.fieldLinkNest RX11 207 "ColdShips$World" "landings" "LColdShips$Rows;" "ColdShips") nzw_85)) (fun _ h9 => h9) rfl dX11_settled_4 ?_
  refine lv_iload_n hx hb dX11_settled_7 rfl (lv_at hl 1 rfl) ?_
  refine tgk_5 hG y20 (fun y24 y24n y25a y25b y25c => ?_)
  refine tpk_5 hT y20 (fun o26_x0 o26_x2 hf_o26 ro26_0 ro26_1 => ?_)
  refine tpk_pos (tp_in hG y20 (by decide)) hf_o26 (fun q27 eq27 => ?_)
  have ro26_0 := tp_hu ro26_0; have ro26_1 := tp_hu ro26_1
  refine pz_calli (va_runV (As := [.int v]) (rest := []) ⟨hx, hb, hml, hown, hts⟩ (t_X4_has l dC dI _ Ω κ τ ν ρ L f hG hT (ρ (ρ h0 0) 17) v y20 o26_x0 o26_x2 hf_o26) (cwV 1 hts gX11_settled_X4_has rfl rfl rfl ⟨rfl, pd_X4_has⟩ ⟨Nat.le_of_ble_eq_true rfl, Nat.le_of_ble_eq_true rfl⟩) ⟨pz_blind, va_recv hK hP (ci := 4) (q0 := q27) rfl eq27, pz_pre hP hK hD hN⟩ rfl rfl hl.1 rfl (lv_room (Nat.le_of_ble_eq_true rfl)) dX11_settled_8 ⟨Nat.le_of_ble_eq_true rfl, Nat.le_of_ble_eq_true rfl⟩) (fun r28 hw29 => ?_)
  obtain ⟨hw29r, hw29p⟩ := hw29
  refine lv_if_eq (tgt := 25) hx hb dX11_settled_11 (by decide) (fun c30 => ?_) (fun c30 => ?_)
  · have ic30 : r28.toInt = 0 := zi_eq rfl rfl c30
    clear hw29r ic30
    refine lv_ldc2 (own := RX11) (v := (-2000000000000000)) hx hb hown (hts (.constantLong RX11 281 (-2000000000000000)) wa_1124) dX11_settled_25 ?_
    exact W.lret (v := (-2000000000000000)) hx hb hr (fun t ht hW => ⟨⟨(-2000000000000000), f, rfl, ⟨hT, hR, trivial, trivial⟩, by rw [ht]; exact hP, va_K.moved hW.alike hK, hD⟩, hS.F ht⟩) hS.2.2 dX11_settled_28
  · have ic30 : r28.toInt ≠ 0 := zi_eqf rfl rfl c30
    have p31 : 0 ≤ v.toInt ∧ v.toInt < o26_x2.toInt := (tp_cond.yes hw29p) (by omega)
    clear hw29r ic30
    refine lv_aload_n hx hb dX11_settled_14 rfl (lv_at hl 0 rfl) ?_
    refine va_get (D := (dC, dI)) (ci := 11) (v := .ref (ρ h0 0)) (C := RX11) (T := TX11) (N := 7) hx hb hts hfX11 hown hK hP q9 eq9 rfl 0 (by decide) (hts (.fieldLink RX11 10 "ColdShips" "world" "LColdShips$World;") wa_15) (fun _ h9 => h9) rfl dX11_settled_15 ?_
    refine lv_iload_n hx hb dX11_settled_18 rfl (lv_at hl 1 rfl) ?_
    refine pz_calli (va_runV (As := [.int v]) (rest := []) ⟨hx, hb, hml, hown, hts⟩ (t_X10_isSettled l dC dI _ Ω κ τ ν ρ L f hG hT (ρ h0 0) v y1) (cwV 1 hts gX11_settled_X10_isSettled rfl rfl rfl ⟨rfl, pd_X10_isSettled⟩ ⟨Nat.le_of_ble_eq_true rfl, Nat.le_of_ble_eq_true rfl⟩) ⟨pz_blind, va_recv hK hP (ci := 10) (q0 := q23) rfl eq23, pz_pre hP hK hD hN⟩ rfl rfl hl.1 rfl (lv_room (Nat.le_of_ble_eq_true rfl)) dX11_settled_19 ⟨Nat.le_of_ble_eq_true rfl, Nat.le_of_ble_eq_true rfl⟩) (fun r32 hw33 => ?_)
    obtain ⟨hw33r, hw33p⟩ := hw33
    refine lv_if_ne (tgt := 29) hx hb dX11_settled_22 (by decide) (fun c34 => ?_) (fun c34 => ?_)
    · have ic34 : r32.toInt ≠ 0 := zi_ne rfl rfl c34
      refine lv_iload_n hx hb dX11_settled_29 rfl (lv_at hl 2 rfl) ?_
      rcases zi_sw u 0 2 with h35 | h35
      · refine lv_tableOut (tgt := 98) hx hb dX11_settled_30 h35 (by decide) ?_
        refine lv_ldc2 (own := RX11) (v := (-2000000000000000)) hx hb hown (hts (.constantLong RX11 281 (-2000000000000000)) wa_1124) dX11_settled_98 ?_
        exact W.lret (v := (-2000000000000000)) hx hb hr (fun t ht hW => ⟨⟨(-2000000000000000), f, rfl, ⟨hT, hR, trivial, trivial⟩, by rw [ht]; exact hP, va_K.moved hW.alike hK, hD⟩, hS.F ht⟩) hS.2.2 dX11_settled_101
      · rcases (show u.toInt = 0 ∨ u.toInt = 1 ∨ u.toInt = 2 by omega) with h35k | h35k | h35k
        · refine lv_tableIn (tgt := 56) hx hb dX11_settled_30 (by omega) (by omega) (by rw [h35k]; rfl) (by decide) ?_
          refine lv_aload_n hx hb dX11_settled_56 rfl (lv_at hl 0 rfl) ?_
          refine va_get (D := (dC, dI)) (ci := 11) (v := .ref (ρ h0 0)) (C := RX11) (T := TX11) (N := 7) hx hb hts hfX11 hown hK hP q9 eq9 rfl 0 (by decide) (hts (.fieldLink RX11 10 "ColdShips" "world" "LColdShips$World;") wa_15) (fun _ h9 => h9) rfl dX11_settled_57 ?_
          refine va_getN (D := (dC, dI)) (ci := 10) (v := .ref (ρ (ρ h0 0) 17)) (C := RX10) (T := TX10) (N := 19) hx hb hts hfX10 hown hK hP q23 eq23 rfl 17 (by decide) (va_Nw.use rfl (hN.1 (.fieldLinkNest RX11 207 "ColdShips$World" "landings" "LColdShips$Rows;" "ColdShips") nzw_85)) (fun _ h9 => h9) rfl dX11_settled_60 ?_
          refine lv_iload_n hx hb dX11_settled_63 rfl (lv_at hl 1 rfl) ?_
          refine lv_bipush (v := 13) hx hb dX11_settled_64 (by decide) ?_
          refine pz_calll (va_runV (As := [.int v, .int 13]) (rest := []) ⟨hx, hb, hml, hown, hts⟩ (t_X4_at l dC dI _ Ω κ τ ν ρ L f hG hT (ρ (ρ h0 0) 17) v (13) y20 o26_x0 o26_x2 hf_o26) (cwV 2 hts gX11_settled_X4_at rfl rfl rfl ⟨rfl, pd_X4_at⟩ ⟨Nat.le_of_ble_eq_true rfl, Nat.le_of_ble_eq_true rfl⟩) ⟨pz_blind, va_recv hK hP (ci := 4) (q0 := q27) rfl eq27, pz_pre hP hK hD hN⟩ rfl rfl hl.1 rfl (lv_room (Nat.le_of_ble_eq_true rfl)) dX11_settled_66 ⟨Nat.le_of_ble_eq_true rfl, Nat.le_of_ble_eq_true rfl⟩) (fun r36 hw37 => ?_)
          obtain ⟨hw37r, hw37p⟩ := hw37
          exact W.lret (v := r36) hx hb hr (fun t ht hW => ⟨⟨r36, f, rfl, ⟨hT, hR, trivial, trivial⟩, by rw [ht]; exact hP, va_K.moved hW.alike hK, hD⟩, hS.F ht⟩) hS.2.2 dX11_settled_69
        · refine lv_tableIn (tgt := 70) hx hb dX11_settled_30 (by omega) (by omega) (by rw [h35k]; rfl) (by decide) ?_
          refine lv_aload_n hx hb dX11_settled_70 rfl (lv_at hl 0 rfl) ?_
          refine va_get (D := (dC, dI)) (ci := 11) (v := .ref (ρ h0 0)) (C := RX11) (T := TX11) (N := 7) hx hb hts hfX11 hown hK hP q9 eq9 rfl 0 (by decide) (hts (.fieldLink RX11 10 "ColdShips" "world" "LColdShips$World;") wa_15) (fun _ h9 => h9) rfl dX11_settled_71 ?_
          refine va_getN (D := (dC, dI)) (ci := 10) (v := .ref (ρ (ρ h0 0) 17)) (C := RX10) (T := TX10) (N := 19) hx hb hts hfX10 hown hK hP q23 eq23 rfl 17 (by decide) (va_Nw.use rfl (hN.1 (.fieldLinkNest RX11 207 "ColdShips$World" "landings" "LColdShips$Rows;" "ColdShips") nzw_85)) (fun _ h9 => h9) rfl dX11_settled_74 ?_
          refine lv_iload_n hx hb dX11_settled_77 rfl (lv_at hl 1 rfl) ?_
          refine lv_bipush (v := 12) hx hb dX11_settled_78 (by decide) ?_
          refine pz_calll (va_runV (As := [.int v, .int 12]) (rest := []) ⟨hx, hb, hml, hown, hts⟩ (t_X4_at l dC dI _ Ω κ τ ν ρ L f hG hT (ρ (ρ h0 0) 17) v (12) y20 o26_x0 o26_x2 hf_o26) (cwV 2 hts gX11_settled_X4_at rfl rfl rfl ⟨rfl, pd_X4_at⟩ ⟨Nat.le_of_ble_eq_true rfl, Nat.le_of_ble_eq_true rfl⟩) ⟨pz_blind, va_recv hK hP (ci := 4) (q0 := q27) rfl eq27, pz_pre hP hK hD hN⟩ rfl rfl hl.1 rfl (lv_room (Nat.le_of_ble_eq_true rfl)) dX11_settled_80 ⟨Nat.le_of_ble_eq_true rfl, Nat.le_of_ble_eq_true rfl⟩) (fun r38 hw39 => ?_)
          obtain ⟨hw39r, hw39p⟩ := hw39
          exact W.lret (v := r38) hx hb hr (fun t ht hW => ⟨⟨r38, f, rfl, ⟨hT, hR, trivial, trivial⟩, by rw [ht]; exact hP, va_K.moved hW.alike hK, hD⟩, hS.F ht⟩) hS.2.2 dX11_settled_83
        · refine lv_tableIn (tgt := 84) hx hb dX11_settled_30 (by omega) (by omega) (by rw [h35k]; rfl) (by decide) ?_
          refine lv_aload_n hx hb dX11_settled_84 rfl (lv_at hl 0 rfl) ?_
          refine va_get (D := (dC, dI)) (ci := 11) (v := .ref (ρ h0 0)) (C := RX11) (T := TX11) (N := 7) hx hb hts hfX11 hown hK hP q9 eq9 rfl 0 (by decide) (hts (.fieldLink RX11 10 "ColdShips" "world" "LColdShips$World;") wa_15) (fun _ h9 => h9) rfl dX11_settled_85 ?_
          refine va_getN (D := (dC, dI)) (ci := 10) (v := .ref (ρ (ρ h0 0) 17)) (C := RX10) (T := TX10) (N := 19) hx hb hts hfX10 hown hK hP q23 eq23 rfl 17 (by decide) (va_Nw.use rfl (hN.1 (.fieldLinkNest RX11 207 "ColdShips$World" "landings" "LColdShips$Rows;" "ColdShips") nzw_85)) (fun _ h9 => h9) rfl dX11_settled_88 ?_
          refine lv_iload_n hx hb dX11_settled_91 rfl (lv_at hl 1 rfl) ?_
          refine lv_bipush (v := 14) hx hb dX11_settled_92 (by decide) ?_
          refine pz_calll (va_runV (As := [.int v, .int 14]) (rest := []) ⟨hx, hb, hml, hown, hts⟩ (t_X4_at l dC dI _ Ω κ τ ν ρ L f hG hT (ρ (ρ h0 0) 17) v (14) y20 o26_x0 o26_x2 hf_o26) (cwV 2 hts gX11_settled_X4_at rfl rfl rfl ⟨rfl, pd_X4_at⟩ ⟨Nat.le_of_ble_eq_true rfl, Nat.le_of_ble_eq_true rfl⟩) ⟨pz_blind, va_recv hK hP (ci := 4) (q0 := q27) rfl eq27, pz_pre hP hK hD hN⟩ rfl rfl hl.1 rfl (lv_room (Nat.le_of_ble_eq_true rfl)) dX11_settled_94 ⟨Nat.le_of_ble_eq_true rfl, Nat.le_of_ble_eq_true rfl⟩) (fun r40 hw41 => ?_)
          obtain ⟨hw41r, hw41p⟩ := hw41
          exact W.lret (v := r40) hx hb hr (fun t ht hW => ⟨⟨r40, f, rfl, ⟨hT, hR, trivial, trivial⟩, by rw [ht]; exact hP, va_K.moved hW.alike hK, hD⟩, hS.F ht⟩) hS.2.2 dX11_settled_97
    · have ic34 : r32.toInt = 0 := zi_nef rfl rfl c34
      refine lv_ldc2 (own := RX11) (v := (-2000000000000000)) hx hb hown (hts (.constantLong RX11 281 (-2000000000000000)) wa_1124) dX11_settled_25 ?_
      exact W.lret (v := (-2000000000000000)) hx hb hr (fun t ht hW => ⟨⟨(-2000000000000000), f, rfl, ⟨hT, hR, trivial, trivial⟩, by rw [ht]; exact hP, va_K.moved hW.alike hK, hD⟩, hS.F ht⟩) hS.2.2 dX11_settled_28
set_option maxHeartbeats 4000000 in
set_option maxRecDepth 100000 in
theorem t_X11_table (l : Launch) (dC : Nat → ClassId) (dI : Nat → Nat → Nat) (sz : Nat) (Ω : Nat → Nat → (Nat → Nat) → va_E → Prop) (κ : Nat → ClassId) (τ ν : Nat → Nat) (ρ : Nat → Nat → Nat) (L : List Nat) (f : Nat → va_E) (hG : tp_G τ ν ρ L) (hT : tp_T Ω κ τ ν ρ f) (h0 : Nat) (v : Int32) (u : Int32) (a : Int32) (b : Int32) (ht_h0 : τ h0 = 12) : Met l yX11_table wqX11_table ({ frames := 3, cells := 0, slots := 0, locals := 800 }) (va_Pc [.ref h0, .int v, .int u, .int a, .int b] (pz_B dC dI (tp_K κ) (va_pl L f) sz)) (va_Qi (fun (r : Int32) (f1 : Nat → va_E) => tp_T Ω κ τ ν ρ f1 ∧ tp_F τ [12, 20] f f1 ∧ True ∧ ((((¬ ((0 ≤ u.toInt ∧ u.toInt ≤ 3) ∧ (0 ≤ a.toInt ∧ a.toInt ≤ 5000) ∧ (0 ≤ b.toInt ∧ b.toInt ≤ 200000))) → r.toInt = -1) ∧ (¬ (¬ ((0 ≤ u.toInt ∧ u.toInt ≤ 3) ∧ (0 ≤ a.toInt ∧ a.toInt ≤ 5000) ∧ (0 ≤ b.toInt ∧ b.toInt ≤ 200000))) → (((¬ (0 ≤ v.toInt ∧ v.toInt < (tp_fld (f (ρ h0 0)) 5))) → r.toInt = -2) ∧ (¬ (¬ (0 ≤ v.toInt ∧ v.toInt < (tp_fld (f (ρ h0 0)) 5))) → r.toInt = 0)))))) (fun (f1 : Nat → va_E) (t : State) => pz_E dC dI (tp_K κ) (va_A (va_pl L f) sz) (va_pl L f1) t) (va_A (va_pl L f) sz)) 0 0 (va_A (va_pl L f) sz) := by
  refine Met.ofW (cc := cX11_table) (maxL := 5) (ret := some .int) (by decide) rfl ?_
  intro p e s m args below meth c s₁ B hml hv
  obtain ⟨rfl, hsz, hP, hK, hD0, hN⟩ := hv
  have hx := B.exec
  have hb := B.bytes
  have hr := B.returns
  have hts := fun (w : Cond) (h : w ∈ WALL) => atoms_spec (ws := wqX11_table) B.pre w (List.mem_cons_of_mem _ h)
  have hown : s.vm.findClass RX11 = some m.cls := findClass_of_methodNamed B.named
  have hlocks := B.notSynchronized
  subst hsz
  have hD := hD0.self (sz := s.heap.size)
  generalize hAe : va_A (va_pl L f) s.heap.size = A at hD ⊢
  have hA : ∀ q : Nat, s.heap.size ≤ q → A q := fun q h => by rw [← hAe]; exact Or.inr h
  have hS : va_S A s.heap s.heap [] := va_S.rf
  have hR : tp_F τ [12, 20] f f := tp_F.rf
  have hl := lv_entry ([.ref h0, .int v, .int u, .int a, .int b]) (n := 5) (Nat.le_of_ble_eq_true rfl)
  rw [lg_entry_eq]
  generalize (lg_sl ([.ref h0, .int v, .int u, .int a, .int b]) ++ List.replicate (5 - (lg_sl ([.ref h0, .int v, .int u, .int a, .int b])).length) Slot.unset).toArray = ls at hl ⊢
  have hl : lv_has ls 5 [(0, .ref h0), (1, .int v), (2, .int u), (3, .int a), (4, .int b)] := hl
  refine tgk_12 hG ht_h0 (fun y1 y1l y2 y3 y4 y5 y6 y7a y7b y7c => ?_)
  refine tgk_11 hG y1 (fun y8 y8n y9 y9n y10 y11 y12 y13 y13m y13l y14 y14m y14l y15 y15m y15l y16 y16w y16m y16l y17 y17w y17m y17l y18 y18w y18m y18l y19 y19w y19m y19l => ?_)
  refine tpk_11 hT y1 (fun o20_x0 o20_x1 o20_x2 o20_x3 o20_x4 o20_x5 o20_x6 hf_o20 ro20_0 ro20_1 ro20_2 ro20_3 => ?_)
  refine lv_iload_n hx hb dX11_table_0 rfl (lv_at hl 2 rfl) ?_
  refine lv_iconst (v := 0) hx hb dX11_table_1 (by decide) ?_
  refine lv_iconst (v := 3) hx hb dX11_table_2 (by decide) ?_
  refine pz_calli (va_runS (As := [.int u, .int 0, .int 3]) (rest := []) ⟨hx, hb, hml, hown, hts⟩ (t_X11_within l dC dI _ u (0) (3) (u.toInt) (0) (3) rfl rfl rfl) (va_cwS 3 hts gX11_table_X11_within rfl rfl rfl pd_X11_within ⟨Nat.le_of_ble_eq_true rfl, Nat.le_of_ble_eq_true rfl⟩) ⟨pz_blind, pz_pre pz_P0 (hK.sub (tys' := []) [] rfl) (pz_D0 (A := fun _ => True)) hN⟩ rfl rfl hl.1 rfl (lv_room (Nat.le_of_ble_eq_true rfl)) dX11_table_3 ⟨Nat.le_of_ble_eq_true rfl, Nat.le_of_ble_eq_true rfl⟩) (fun r21 hw22 => ?_)
  obtain ⟨hw22r, hw22p⟩ := hw22
  refine lv_if_eq (tgt := 31) hx hb dX11_table_6 (by decide) (fun c23 => ?_) (fun c23 => ?_)
  · have ic23 : r21.toInt = 0 := zi_eq rfl rfl c23
    have p24 : ¬ ((0) ≤ (u.toInt) ∧ (u.toInt) ≤ (3)) := (tp_cond.no hw22p) (by omega)
    clear hw22r ic23
    refine lv_aload_n hx hb dX11_table_31 rfl (lv_at hl 0 rfl) ?_
    refine lv_iconst (v := (-1)) hx hb dX11_table_32 (by decide) ?_
    refine tpk_12 hT ht_h0 (fun o25_x6 hf_o25 => ?_)
    refine tpk_pos (tp_in hG ht_h0 (by decide)) hf_o25 (fun q26 eq26 => ?_)
    have hFc := tp_fr hD hS hA
    refine va_calli (va_runV (As := [.int (-1)]) (rest := []) ⟨hx, hb, hml, hown, hts⟩ (t_X11_refuse l dC dI _ Ω κ τ ν ρ L f hG hT h0 ((-1)) ht_h0) (cwV 1 hts gX11_table_X11_refuse rfl rfl rfl ⟨rfl, pd_X11_refuse⟩ ⟨Nat.le_of_ble_eq_true rfl, Nat.le_of_ble_eq_true rfl⟩) ⟨pz_blind, va_recv hK hP (ci := 11) (q0 := q26) rfl eq26, pz_pre hP hK hD hN⟩ rfl rfl hl.1 rfl (lv_room (Nat.le_of_ble_eq_true rfl)) dX11_table_33 ⟨Nat.le_of_ble_eq_true rfl, Nat.le_of_ble_eq_true rfl⟩) hS (fun q _ h => hFc q h) hFc (fun r27 f29 t H1 locs ht hvm hw28 hB hz1 hk1 hS => ?_)
    refine tn_4 hw28 (fun hT hF30 hw28r hw28p => ?_); clear hw28
    have hR := hR.then hF30 (by decide)
    have hP := hB.1; rw [ht] at hP; have hD := tp_ad f29 hD; clear hB hFc hz1 hk1; subst ht; generalize t.heap = H at hP hS ⊢
    have hw28pq : r27.toInt = (-1) := by rw [hw28p]; rfl
    have ro20_2 := tp_hu ro20_2
    have tv31 : tp_fld (f (ρ h0 0)) 5 = o20_x5.toInt := by rw [hf_o20]; rfl
    exact W.iret (v := r27) hx hb hr (fun t ht hW => ⟨⟨r27, f29, rfl, ⟨hT, hR, trivial, (by first | (rw [tv31]; done) | (rw [tv31]; exact ⟨fun q0 => by omega, fun q0 => ⟨fun q1 => by omega, fun q1 => (by omega)⟩⟩))⟩, by rw [ht]; exact hP, va_K.moved hW.alike hK, hD⟩, hS.F ht⟩) hS.2.2 dX11_table_36
  · have ic23 : r21.toInt ≠ 0 := zi_eqf rfl rfl c23
    have p32 : (0) ≤ (u.toInt) ∧ (u.toInt) ≤ (3) := (tp_cond.yes hw22p) (by omega)
    clear hw22r ic23
    refine lv_iload_n hx hb dX11_table_9 rfl (lv_at hl 3 rfl) ?_
    refine lv_iconst (v := 0) hx hb dX11_table_10 (by decide) ?_
    refine lv_sipush (v := 5000) hx hb dX11_table_11 (by decide) ?_
    refine pz_calli (va_runS (As := [.int a, .int 0, .int 5000]) (rest := []) ⟨hx, hb, hml, hown, hts⟩ (t_X11_within l dC dI _ a (0) (5000) (a.toInt) (0) (5000) rfl rfl rfl) (va_cwS 3 hts gX11_table_X11_within rfl rfl rfl pd_X11_within ⟨Nat.le_of_ble_eq_true rfl, Nat.le_of_ble_eq_true rfl⟩) ⟨pz_blind, pz_pre pz_P0 (hK.sub (tys' := []) [] rfl) (pz_D0 (A := fun _ => True)) hN⟩ rfl rfl hl.1 rfl (lv_room (Nat.le_of_ble_eq_true rfl)) dX11_table_14 ⟨Nat.le_of_ble_eq_true rfl, Nat.le_of_ble_eq_true rfl⟩) (fun r33 hw34 => ?_)
    obtain ⟨hw34r, hw34p⟩ := hw34
    refine lv_if_eq (tgt := 31) hx hb dX11_table_17 (by decide) (fun c35 => ?_) (fun c35 => ?_)
    · have ic35 : r33.toInt = 0 := zi_eq rfl rfl c35
      have p36 : ¬ ((0) ≤ (a.toInt) ∧ (a.toInt) ≤ (5000)) := (tp_cond.no hw34p) (by omega)
      clear hw34r ic35
      refine lv_aload_n hx hb dX11_table_31 rfl (lv_at hl 0 rfl) ?_
      refine lv_iconst (v := (-1)) hx hb dX11_table_32 (by decide) ?_
      refine tpk_12 hT ht_h0 (fun o37_x6 hf_o37 => ?_)
      refine tpk_pos (tp_in hG ht_h0 (by decide)) hf_o37 (fun q38 eq38 => ?_)
      have hFc := tp_fr hD hS hA
      refine va_calli (va_runV (As := [.int (-1)]) (rest := []) ⟨hx, hb, hml, hown, hts⟩ (t_X11_refuse l dC dI _ Ω κ τ ν ρ L f hG hT h0 ((-1)) ht_h0) (cwV 1 hts gX11_table_X11_refuse rfl rfl rfl ⟨rfl, pd_X11_refuse⟩ ⟨Nat.le_of_ble_eq_true rfl, Nat.le_of_ble_eq_true rfl⟩) ⟨pz_blind, va_recv hK hP (ci := 11) (q0 := q38) rfl eq38, pz_pre hP hK hD hN⟩ rfl rfl hl.1 rfl (lv_room (Nat.le_of_ble_eq_true rfl)) dX11_table_33 ⟨Nat.le_of_ble_eq_true rfl, Nat.le_of_ble_eq_true rfl⟩) hS (fun q _ h => hFc q h) hFc (fun r39 f41 t H1 locs ht hvm hw40 hB hz1 hk1 hS => ?_)
      refine tn_4 hw40 (fun hT hF42 hw40r hw40p => ?_); clear hw40
      have hR := hR.then hF42 (by decide)
      have hP := hB.1; rw [ht] at hP; have hD := tp_ad f41 hD; clear hB hFc hz1 hk1; subst ht; generalize t.heap = H at hP hS ⊢
      have hw40pq : r39.toInt = (-1) := by rw [hw40p]; rfl
      have ro20_2 := tp_hu ro20_2
      have tv43 : tp_fld (f (ρ h0 0)) 5 = o20_x5.toInt := by rw [hf_o20]; rfl
      exact W.iret (v := r39) hx hb hr (fun t ht hW => ⟨⟨r39, f41, rfl, ⟨hT, hR, trivial, (by first | (rw [tv43]; done) | (rw [tv43]; exact ⟨fun q0 => by omega, fun q0 => ⟨fun q1 => by omega, fun q1 => (by omega)⟩⟩))⟩, by rw [ht]; exact hP, va_K.moved hW.alike hK, hD⟩, hS.F ht⟩) hS.2.2 dX11_table_36
    · have ic35 : r33.toInt ≠ 0 := zi_eqf rfl rfl c35
      have p44 : (0) ≤ (a.toInt) ∧ (a.toInt) ≤ (5000) := (tp_cond.yes hw34p) (by omega)
      clear hw34r ic35
      refine lv_iload hx hb dX11_table_20 (lv_at hl 4 rfl) ?_
      refine lv_iconst (v := 0) hx hb dX11_table_22 (by decide) ?_
      refine lv_ldc (own := RX11) (v := 200000) hx hb hown (hts (.constant RX11 76 (200000)) wa_232) dX11_table_23 ?_
      refine pz_calli (va_runS (As := [.int b, .int 0, .int 200000]) (rest := []) ⟨hx, hb, hml, hown, hts⟩ (t_X11_within l dC dI _ b (0) (200000) (b.toInt) (0) (200000) rfl rfl rfl) (va_cwS 3 hts gX11_table_X11_within rfl rfl rfl pd_X11_within ⟨Nat.le_of_ble_eq_true rfl, Nat.le_of_ble_eq_true rfl⟩) ⟨pz_blind, pz_pre pz_P0 (hK.sub (tys' := []) [] rfl) (pz_D0 (A := fun _ => True)) hN⟩ rfl rfl hl.1 rfl (lv_room (Nat.le_of_ble_eq_true rfl)) dX11_table_25 ⟨Nat.le_of_ble_eq_true rfl, Nat.le_of_ble_eq_true rfl⟩) (fun r45 hw46 => ?_)
      obtain ⟨hw46r, hw46p⟩ := hw46
      refine lv_if_ne (tgt := 37) hx hb dX11_table_28 (by decide) (fun c47 => ?_) (fun c47 => ?_)
      · have ic47 : r45.toInt ≠ 0 := zi_ne rfl rfl c47
        have p48 : (0) ≤ (b.toInt) ∧ (b.toInt) ≤ (200000) := (tp_cond.yes hw46p) (by omega)
        clear hw46r ic47
        refine lv_aload_n hx hb dX11_table_37 rfl (lv_at hl 0 rfl) ?_
        refine tpk_12 hT ht_h0 (fun o49_x6 hf_o49 => ?_)
        refine tpk_pos (tp_in hG ht_h0 (by decide)) hf_o49 (fun q50 eq50 => ?_)
        refine va_get (D := (dC, dI)) (ci := 11) (v := .ref (ρ h0 0)) (C := RX11) (T := TX11) (N := 7) hx hb hts hfX11 hown hK hP q50 eq50 rfl 0 (by decide) (hts (.fieldLink RX11 10 "ColdShips" "world" "LColdShips$World;") wa_15) (fun _ h9 => h9) rfl dX11_table_38 ?_
        refine lv_iload_n hx hb dX11_table_41 rfl (lv_at hl 1 rfl) ?_
        refine tpk_pos (tp_in hG y1 (by decide)) hf_o20 (fun q51 eq51 => ?_)
        have ro20_0 := tp_hu ro20_0; have ro20_1 := tp_hu ro20_1; have ro20_2 := tp_hu ro20_2; have ro20_3 := tp_hu ro20_3
        refine pz_calli (va_runV (As := [.int v]) (rest := []) ⟨hx, hb, hml, hown, hts⟩ (t_X10_hasShip l dC dI _ Ω κ τ ν ρ L f hG hT (ρ h0 0) v y1 o20_x0 o20_x1 o20_x2 o20_x3 o20_x4 o20_x5 o20_x6 hf_o20) (cwV 1 hts gX11_table_X10_hasShip rfl rfl rfl ⟨rfl, pd_X10_hasShip⟩ ⟨Nat.le_of_ble_eq_true rfl, Nat.le_of_ble_eq_true rfl⟩) ⟨pz_blind, va_recv hK hP (ci := 10) (q0 := q51) rfl eq51, pz_pre hP hK hD hN⟩ rfl rfl hl.1 rfl (lv_room (Nat.le_of_ble_eq_true rfl)) dX11_table_42 ⟨Nat.le_of_ble_eq_true rfl, Nat.le_of_ble_eq_true rfl⟩) (fun r52 hw53 => ?_)
        obtain ⟨hw53r, hw53p⟩ := hw53
        refine lv_if_ne (tgt := 55) hx hb dX11_table_45 (by decide) (fun c54 => ?_) (fun c54 => ?_)
        · have ic54 : r52.toInt ≠ 0 := zi_ne rfl rfl c54
          have p55 : 0 ≤ v.toInt ∧ v.toInt < o20_x5.toInt := (tp_cond.yes hw53p) (by omega)
          clear hw53r ic54
          refine lv_aload_n hx hb dX11_table_55 rfl (lv_at hl 0 rfl) ?_
          refine va_get (D := (dC, dI)) (ci := 11) (v := .ref (ρ h0 0)) (C := RX11) (T := TX11) (N := 7) hx hb hts hfX11 hown hK hP q50 eq50 rfl 0 (by decide) (hts (.fieldLink RX11 10 "ColdShips" "world" "LColdShips$World;") wa_15) (fun _ h9 => h9) rfl dX11_table_56 ?_
          refine va_getN (D := (dC, dI)) (ci := 10) (v := .ref (ρ (ρ h0 0) 10)) (C := RX10) (T := TX10) (N := 19) hx hb hts hfX10 hown hK hP q51 eq51 rfl 10 (by decide) (va_Nw.use rfl (hN.1 (.fieldLinkNest RX11 84 "ColdShips$World" "ships" "[LColdShips$Ship;" "ColdShips") nzw_69)) (fun _ h9 => h9) rfl dX11_table_59 ?_
          refine lv_iload_n hx hb dX11_table_62 rfl (lv_at hl 1 rfl) ?_
          refine tpk_25 hT y11 (fun g57 hf_o56 hf_o56e => ?_)
          refine tpk_pos (tp_in hG y11 (by decide)) hf_o56 (fun q58 eq58 => ?_)
          refine va_aldq hx hb hK hP q58 5 eq58 rfl (vp_in_iff.mpr ⟨by omega, by omega⟩) dX11_table_63 ?_
          obtain ⟨b59, hb60⟩ : ∃ b : Nat, b = ρ (ρ (ρ h0 0) 10) v.toNatClampNeg := ⟨_, rfl⟩
          have hb60t : τ b59 = 6 := by rw [hb60]; exact tpg_25 hG y11 _ (zi_cl (vp_in_iff.mpr ⟨by omega, by omega⟩))
          have hb60g : g57 v.toNatClampNeg = some b59 := by rw [hb60]; exact hf_o56e _ (zi_cl (vp_in_iff.mpr ⟨by omega, by omega⟩))
          refine W.eq (g2 := F0 m 64 ls (.ref b59 :: [])) (congrArg (fun o => F0 m 64 ls (va_rf o :: [])) hb60g) ?_
          refine tgk_6 hG hb60t (fun y61 y62 y62n y63 y63n y64 y64n y65 y65n y66 y66n y67 y67n => ?_)
          refine tpk_6 hT hb60t (fun o68_x1 o68_x2 o68_x3 o68_x4 o68_x5 o68_x6 o68_x10 o68_x11 o68_x12 o68_x14 hf_o68 ro68_0 ro68_1 ro68_2 => ?_)
          refine tpk_pos (tp_in hG hb60t (by decide)) hf_o68 (fun q69 eq69 => ?_)
          refine va_getN (D := (dC, dI)) (ci := 5) (v := .ref (ρ b59 15)) (C := RX5) (T := TX5) (N := 17) hx hb hts hfX5 hown hK hP q69 eq69 rfl 15 (by decide) (va_Nw.use rfl (hN.1 (.fieldLinkNest RX11 297 "ColdShips$Ship" "gaugeCentimetres" "[I" "ColdShips") nzw_46)) (fun _ h9 => h9) rfl dX11_table_64 ?_
          refine lv_iload_n hx hb dX11_table_67 rfl (lv_at hl 2 rfl) ?_
          refine lv_iload_n hx hb dX11_table_68 rfl (lv_at hl 3 rfl) ?_
          refine tpk_20 hT y66 y66n (fun g71 hf_o70 => ?_)
          refine tpk_pos (tp_in hG y66 (by decide)) hf_o70 (fun q72 eq72 => ?_)
          refine va_iast hx hb hK hP hD hS q72 0 eq72 rfl (vp_in_iff.mpr ⟨by omega, by omega⟩) dX11_table_69 (tp_k (.inl (κ 0, 4, .inl (upd g71 u.toNatClampNeg a))) hD (tp_in hG y66 (by decide)) eq72 (fun f73 H locs hP hD hS g75 k74 => ?_))
          have hT := hT.up y66 g75 k74 (tp_o20 y66n)
          have hR := hR.up y66 (by decide) k74
          generalize (upd g71 u.toNatClampNeg a) = g76 at g75
          refine lv_aload_n hx hb dX11_table_70 rfl (lv_at hl 0 rfl) ?_
          have hf_77 : f73 h0 = .inr (11, [.ref (ρ h0 0), .ref (ρ h0 1), .ref (ρ h0 2), .ref (ρ h0 3), .ref (ρ h0 4), .ref (ρ h0 5), .int o49_x6]) := (k74 _ (tp_ne ht_h0 y66 (by decide))).trans hf_o49
          refine tpk_pos (tp_in hG ht_h0 (by decide)) hf_77 (fun q78 eq78 => ?_)
          refine va_get (D := (dC, dI)) (ci := 11) (v := .ref (ρ h0 0)) (C := RX11) (T := TX11) (N := 7) hx hb hts hfX11 hown hK hP q78 eq78 rfl 0 (by decide) (hts (.fieldLink RX11 10 "ColdShips" "world" "LColdShips$World;") wa_15) (fun _ h9 => h9) rfl dX11_table_71 ?_
          have hf_79 : f73 (ρ h0 0) = .inr (10, [.int o20_x0, .int o20_x1, .int o20_x2, .int o20_x3, .int o20_x4, .int o20_x5, .int o20_x6, .ref (ρ (ρ h0 0) 7), .ref (ρ (ρ h0 0) 8), .ref (ρ (ρ h0 0) 9), .ref (ρ (ρ h0 0) 10), .ref (ρ (ρ h0 0) 11), .ref (ρ (ρ h0 0) 12), .ref (ρ (ρ h0 0) 13), .ref (ρ (ρ h0 0) 14), .ref (ρ (ρ h0 0) 15), .ref (ρ (ρ h0 0) 16), .ref (ρ (ρ h0 0) 17), .ref (ρ (ρ h0 0) 18)]) := (k74 _ (tp_ne y1 y66 (by decide))).trans hf_o20
          refine tpk_pos (tp_in hG y1 (by decide)) hf_79 (fun q80 eq80 => ?_)
          refine va_getN (D := (dC, dI)) (ci := 10) (v := .ref (ρ (ρ h0 0) 10)) (C := RX10) (T := TX10) (N := 19) hx hb hts hfX10 hown hK hP q80 eq80 rfl 10 (by decide) (va_Nw.use rfl (hN.1 (.fieldLinkNest RX11 84 "ColdShips$World" "ships" "[LColdShips$Ship;" "ColdShips") nzw_69)) (fun _ h9 => h9) rfl dX11_table_74 ?_
          refine lv_iload_n hx hb dX11_table_77 rfl (lv_at hl 1 rfl) ?_
          have hf_81 : f73 (ρ (ρ h0 0) 10) = .inl (κ 5, 6, .inr (.inr (.inr (.inr g57)))) := (k74 _ (tp_ne y11 y66 (by decide))).trans hf_o56
          refine tpk_pos (tp_in hG y11 (by decide)) hf_81 (fun q82 eq82 => ?_)
          refine va_aldq hx hb hK hP q82 5 eq82 rfl (vp_in_iff.mpr ⟨by omega, by omega⟩) dX11_table_78 ?_
          obtain ⟨b83, hb84⟩ : ∃ b : Nat, b = ρ (ρ (ρ h0 0) 10) v.toNatClampNeg := ⟨_, rfl⟩
          have hb84t : τ b83 = 6 := by rw [hb84]; exact tpg_25 hG y11 _ (zi_cl (vp_in_iff.mpr ⟨by omega, by omega⟩))
          have hb84g : g57 v.toNatClampNeg = some b83 := by rw [hb84]; exact hf_o56e _ (zi_cl (vp_in_iff.mpr ⟨by omega, by omega⟩))
          refine W.eq (g2 := F0 m 79 ls (.ref b83 :: [])) (congrArg (fun o => F0 m 79 ls (va_rf o :: [])) hb84g) ?_
          refine tgk_6 hG hb84t (fun y85 y86 y86n y87 y87n y88 y88n y89 y89n y90 y90n y91 y91n => ?_)
          refine tpk_6 hT hb84t (fun o92_x1 o92_x2 o92_x3 o92_x4 o92_x5 o92_x6 o92_x10 o92_x11 o92_x12 o92_x14 hf_o92 ro92_0 ro92_1 ro92_2 => ?_)
          refine tpk_pos (tp_in hG hb84t (by decide)) hf_o92 (fun q93 eq93 => ?_)
          refine va_getN (D := (dC, dI)) (ci := 5) (v := .ref (ρ b83 16)) (C := RX5) (T := TX5) (N := 17) hx hb hts hfX5 hown hK hP q93 eq93 rfl 16 (by decide) (va_Nw.use rfl (hN.1 (.fieldLinkNest RX11 300 "ColdShips$Ship" "gaugeTons" "[I" "ColdShips") nzw_47)) (fun _ h9 => h9) rfl dX11_table_79 ?_
          refine lv_iload_n hx hb dX11_table_82 rfl (lv_at hl 2 rfl) ?_
          refine lv_iload hx hb dX11_table_83 (lv_at hl 4 rfl) ?_
          refine tpk_20 hT y91 y91n (fun g95 hf_o94 => ?_)
          refine tpk_pos (tp_in hG y91 (by decide)) hf_o94 (fun q96 eq96 => ?_)
          refine va_iast hx hb hK hP hD hS q96 0 eq96 rfl (vp_in_iff.mpr ⟨by omega, by omega⟩) dX11_table_85 (tp_k (.inl (κ 0, 4, .inl (upd g95 u.toNatClampNeg b))) hD (tp_in hG y91 (by decide)) eq96 (fun f97 H locs hP hD hS g99 k98 => ?_))
          have hT := hT.up y91 g99 k98 (tp_o20 y91n)
          have hR := hR.up y91 (by decide) k98
          generalize (upd g95 u.toNatClampNeg b) = g100 at g99
          refine lv_aload_n hx hb dX11_table_86 rfl (lv_at hl 0 rfl) ?_
          refine lv_iconst (v := 0) hx hb dX11_table_87 (by decide) ?_
          have hf_101 : f97 h0 = .inr (11, [.ref (ρ h0 0), .ref (ρ h0 1), .ref (ρ h0 2), .ref (ρ h0 3), .ref (ρ h0 4), .ref (ρ h0 5), .int o49_x6]) := (k98 _ (tp_ne ht_h0 y91 (by decide))).trans hf_77
          refine tpk_pos (tp_in hG ht_h0 (by decide)) hf_101 (fun q102 eq102 => ?_)
          have hFc := tp_fr hD hS hA
          refine va_calli (va_runV (As := [.int 0]) (rest := []) ⟨hx, hb, hml, hown, hts⟩ (t_X11_accept l dC dI _ Ω κ τ ν ρ L f97 hG hT h0 (0) ht_h0) (cwV 1 hts gX11_table_X11_accept rfl rfl rfl ⟨rfl, pd_X11_accept⟩ ⟨Nat.le_of_ble_eq_true rfl, Nat.le_of_ble_eq_true rfl⟩) ⟨pz_blind, va_recv hK hP (ci := 11) (q0 := q102) rfl eq102, pz_pre hP hK hD hN⟩ rfl rfl hl.1 rfl (lv_room (Nat.le_of_ble_eq_true rfl)) dX11_table_88 ⟨Nat.le_of_ble_eq_true rfl, Nat.le_of_ble_eq_true rfl⟩) hS (fun q _ h => hFc q h) hFc (fun r103 f105 t H1 locs ht hvm hw104 hB hz1 hk1 hS => ?_)
          refine tn_4 hw104 (fun hT hF106 hw104r hw104p => ?_); clear hw104
          have hR := hR.then hF106 (by decide)
          have hP := hB.1; rw [ht] at hP; have hD := tp_ad f105 hD; clear hB hFc hz1 hk1; subst ht; generalize t.heap = H at hP hS ⊢
          have hw104pq : r103.toInt = 0 := by rw [hw104p]; rfl
          have tv107 : tp_fld (f (ρ h0 0)) 5 = o20_x5.toInt := by rw [hf_o20]; rfl
          exact W.iret (v := r103) hx hb hr (fun t ht hW => ⟨⟨r103, f105, rfl, ⟨hT, hR, trivial, (by first | (rw [tv107]; done) | (rw [tv107]; exact ⟨fun q0 => by omega, fun q0 => ⟨fun q1 => by omega, fun q1 => (by omega)⟩⟩))⟩, by rw [ht]; exact hP, va_K.moved hW.alike hK, hD⟩, hS.F ht⟩) hS.2.2 dX11_table_91
        · have ic54 : r52.toInt = 0 := zi_nef rfl rfl c54
          have p108 : ¬ (0 ≤ v.toInt ∧ v.toInt < o20_x5.toInt) := (tp_cond.no hw53p) (by omega)
          clear hw53r ic54
          refine lv_aload_n hx hb dX11_table_48 rfl (lv_at hl 0 rfl) ?_
          refine lv_bipush (v := (-2)) hx hb dX11_table_49 (by decide) ?_
          have hFc := tp_fr hD hS hA
          refine va_calli (va_runV (As := [.int (-2)]) (rest := []) ⟨hx, hb, hml, hown, hts⟩ (t_X11_refuse l dC dI _ Ω κ τ ν ρ L f hG hT h0 ((-2)) ht_h0) (cwV 1 hts gX11_table_X11_refuse rfl rfl rfl ⟨rfl, pd_X11_refuse⟩ ⟨Nat.le_of_ble_eq_true rfl, Nat.le_of_ble_eq_true rfl⟩) ⟨pz_blind, va_recv hK hP (ci := 11) (q0 := q50) rfl eq50, pz_pre hP hK hD hN⟩ rfl rfl hl.1 rfl (lv_room (Nat.le_of_ble_eq_true rfl)) dX11_table_51 ⟨Nat.le_of_ble_eq_true rfl, Nat.le_of_ble_eq_true rfl⟩) hS (fun q _ h => hFc q h) hFc (fun r109 f111 t H1 locs ht hvm hw110 hB hz1 hk1 hS => ?_)
          refine tn_4 hw110 (fun hT hF112 hw110r hw110p => ?_); clear hw110
          have hR := hR.then hF112 (by decide)
          have hP := hB.1; rw [ht] at hP; have hD := tp_ad f111 hD; clear hB hFc hz1 hk1; subst ht; generalize t.heap = H at hP hS ⊢
          have hw110pq : r109.toInt = (-2) := by rw [hw110p]; rfl
          have tv113 : tp_fld (f (ρ h0 0)) 5 = o20_x5.toInt := by rw [hf_o20]; rfl
          exact W.iret (v := r109) hx hb hr (fun t ht hW => ⟨⟨r109, f111, rfl, ⟨hT, hR, trivial, (by first | (rw [tv113]; done) | (rw [tv113]; exact ⟨fun q0 => by omega, fun q0 => ⟨fun q1 => by omega, fun q1 => (by omega)⟩⟩))⟩, by rw [ht]; exact hP, va_K.moved hW.alike hK, hD⟩, hS.F ht⟩) hS.2.2 dX11_table_54
      · have ic47 : r45.toInt = 0 := zi_nef rfl rfl c47
        have p114 : ¬ ((0) ≤ (b.toInt) ∧ (b.toInt) ≤ (200000)) := (tp_cond.no hw46p) (by omega)
        clear hw46r ic47
        refine lv_aload_n hx hb dX11_table_31 rfl (lv_at hl 0 rfl) ?_
        refine lv_iconst (v := (-1)) hx hb dX11_table_32 (by decide) ?_
        refine tpk_12 hT ht_h0 (fun o115_x6 hf_o115 => ?_)
        refine tpk_pos (tp_in hG ht_h0 (by decide)) hf_o115 (fun q116 eq116 => ?_)
        have hFc := tp_fr hD hS hA
        refine va_calli (va_runV (As := [.int (-1)]) (rest := []) ⟨hx, hb, hml, hown, hts⟩ (t_X11_refuse l dC dI _ Ω κ τ ν ρ L f hG hT h0 ((-1)) ht_h0) (cwV 1 hts gX11_table_X11_refuse rfl rfl rfl ⟨rfl, pd_X11_refuse⟩ ⟨Nat.le_of_ble_eq_true rfl, Nat.le_of_ble_eq_true rfl⟩) ⟨pz_blind, va_recv hK hP (ci := 11) (q0 := q116) rfl eq116, pz_pre hP hK hD hN⟩ rfl rfl hl.1 rfl (lv_room (Nat.le_of_ble_eq_true rfl)) dX11_table_33 ⟨Nat.le_of_ble_eq_true rfl, Nat.le_of_ble_eq_true rfl⟩) hS (fun q _ h => hFc q h) hFc (fun r117 f119 t H1 locs ht hvm hw118 hB hz1 hk1 hS => ?_)
        refine tn_4 hw118 (fun hT hF120 hw118r hw118p => ?_); clear hw118
        have hR := hR.then hF120 (by decide)
        have hP := hB.1; rw [ht] at hP; have hD := tp_ad f119 hD; clear hB hFc hz1 hk1; subst ht; generalize t.heap = H at hP hS ⊢
        have hw118pq : r117.toInt = (-1) := by rw [hw118p]; rfl
        have ro20_2 := tp_hu ro20_2
        have tv121 : tp_fld (f (ρ h0 0)) 5 = o20_x5.toInt := by rw [hf_o20]; rfl
        exact W.iret (v := r117) hx hb hr (fun t ht hW => ⟨⟨r117, f119, rfl, ⟨hT, hR, trivial, (by first | (rw [tv121]; done) | (rw [tv121]; exact ⟨fun q0 => by omega, fun q0 => ⟨fun q1 => by omega, fun q1 => (by omega)⟩⟩))⟩, by rw [ht]; exact hP, va_K.moved hW.alike hK, hD⟩, hS.F ht⟩) hS.2.2 dX11_table_36
set_option maxHeartbeats 4000000 in
set_option maxRecDepth 100000 in
theorem t_X11_list (l : Launch) (dC : Nat → ClassId) (dI : Nat → Nat → Nat) (sz : Nat) (Ω : Nat → Nat → (Nat → Nat) → va_E → Prop) (κ : Nat → ClassId) (τ ν : Nat → Nat) (ρ : Nat → Nat → Nat) (L : List Nat) (f : Nat → va_E) (hG : tp_G τ ν ρ L) (hT : tp_T Ω κ τ ν ρ f) (h0 : Nat) (v : Int32) (u : Int32) (ht_h0 : τ h0 = 12) : Met l yX11_list wqX11_list ({ frames := 3, cells := 0, slots := 0, locals := 800 }) (va_Pc [.ref h0, .int v, .int u] (pz_B dC dI (tp_K κ) (va_pl L f) sz)) (va_Qi (fun (r : Int32) (f1 : Nat → va_E) => tp_T Ω κ τ ν ρ f1 ∧ tp_F τ [6, 12] f f1 ∧ True ∧ True) (fun (f1 : Nat → va_E) (t : State) => pz_E dC dI (tp_K κ) (va_A (va_pl L f) sz) (va_pl L f1) t) (va_A (va_pl L f) sz)) 0 0 (va_A (va_pl L f) sz) := by
  refine Met.ofW (cc := cX11_list) (maxL := 4) (ret := some .int) (by decide) rfl ?_
  intro p e s m args below meth c s₁ B hml hv
  obtain ⟨rfl, hsz, hP, hK, hD0, hN⟩ := hv
  have hx := B.exec
  have hb := B.bytes
  have hr := B.returns
  have hts := fun (w : Cond) (h : w ∈ WALL) => atoms_spec (ws := wqX11_list) B.pre w (List.mem_cons_of_mem _ h)
  have hown : s.vm.findClass RX11 = some m.cls := findClass_of_methodNamed B.named
  have hlocks := B.notSynchronized
  subst hsz
  have hD := hD0.self (sz := s.heap.size)
  generalize hAe : va_A (va_pl L f) s.heap.size = A at hD ⊢
  have hA : ∀ q : Nat, s.heap.size ≤ q → A q := fun q h => by rw [← hAe]; exact Or.inr h
  have hS : va_S A s.heap s.heap [] := va_S.rf
  have hR : tp_F τ [6, 12] f f := tp_F.rf
  have hl := lv_entry ([.ref h0, .int v, .int u]) (n := 4) (Nat.le_of_ble_eq_true rfl)
  rw [lg_entry_eq]
  generalize (lg_sl ([.ref h0, .int v, .int u]) ++ List.replicate (4 - (lg_sl ([.ref h0, .int v, .int u])).length) Slot.unset).toArray = ls at hl ⊢
  have hl : lv_has ls 4 [(0, .ref h0), (1, .int v), (2, .int u)] := hl
  refine lv_iload_n hx hb dX11_list_0 rfl (lv_at hl 2 rfl) ?_
  refine lv_bipush (v := (-50)) hx hb dX11_list_1 (by decide) ?_
  refine lv_bipush (v := 50) hx hb dX11_list_3 (by decide) ?_
  refine pz_calli (va_runS (As := [.int u, .int (-50), .int 50]) (rest := []) ⟨hx, hb, hml, hown, hts⟩ (t_X11_within l dC dI _ u ((-50)) (50) (u.toInt) ((-50)) (50) rfl rfl rfl) (va_cwS 3 hts gX11_list_X11_within rfl rfl rfl pd_X11_within ⟨Nat.le_of_ble_eq_true rfl, Nat.le_of_ble_eq_true rfl⟩) ⟨pz_blind, pz_pre pz_P0 (hK.sub (tys' := []) [] rfl) (pz_D0 (A := fun _ => True)) hN⟩ rfl rfl hl.1 rfl (lv_room (Nat.le_of_ble_eq_true rfl)) dX11_list_5 ⟨Nat.le_of_ble_eq_true rfl, Nat.le_of_ble_eq_true rfl⟩) (fun r1 hw2 => ?_)
  obtain ⟨hw2r, hw2p⟩ := hw2
  refine lv_if_ne (tgt := 17) hx hb dX11_list_8 (by decide) (fun c3 => ?_) (fun c3 => ?_)
  · have ic3 : r1.toInt ≠ 0 := zi_ne rfl rfl c3
    have p4 : ((-50)) ≤ (u.toInt) ∧ (u.toInt) ≤ (50) := (tp_cond.yes hw2p) (by omega)
    clear hw2r ic3
    refine lv_aload_n hx hb dX11_list_17 rfl (lv_at hl 0 rfl) ?_
    refine tgk_12 hG ht_h0 (fun y5 y5l y6 y7 y8 y9 y10 y11a y11b y11c => ?_)
    refine tpk_12 hT ht_h0 (fun o12_x6 hf_o12 => ?_)
    refine tpk_pos (tp_in hG ht_h0 (by decide)) hf_o12 (fun q13 eq13 => ?_)
    refine va_get (D := (dC, dI)) (ci := 11) (v := .ref (ρ h0 0)) (C := RX11) (T := TX11) (N := 7) hx hb hts hfX11 hown hK hP q13 eq13 rfl 0 (by decide) (hts (.fieldLink RX11 10 "ColdShips" "world" "LColdShips$World;") wa_15) (fun _ h9 => h9) rfl dX11_list_18 ?_
    refine lv_iload_n hx hb dX11_list_21 rfl (lv_at hl 1 rfl) ?_
    refine tgk_11 hG y5 (fun y14 y14n y15 y15n y16 y17 y18 y19 y19m y19l y20 y20m y20l y21 y21m y21l y22 y22w y22m y22l y23 y23w y23m y23l y24 y24w y24m y24l y25 y25w y25m y25l => ?_)
    refine tpk_11 hT y5 (fun o26_x0 o26_x1 o26_x2 o26_x3 o26_x4 o26_x5 o26_x6 hf_o26 ro26_0 ro26_1 ro26_2 ro26_3 => ?_)
    refine tpk_pos (tp_in hG y5 (by decide)) hf_o26 (fun q27 eq27 => ?_)
    have ro26_0 := tp_hu ro26_0; have ro26_1 := tp_hu ro26_1; have ro26_2 := tp_hu ro26_2; have ro26_3 := tp_hu ro26_3
    refine pz_calli (va_runV (As := [.int v]) (rest := []) ⟨hx, hb, hml, hown, hts⟩ (t_X10_hasShip l dC dI _ Ω κ τ ν ρ L f hG hT (ρ h0 0) v y5 o26_x0 o26_x1 o26_x2 o26_x3 o26_x4 o26_x5 o26_x6 hf_o26) (cwV 1 hts gX11_list_X10_hasShip rfl rfl rfl ⟨rfl, pd_X10_hasShip⟩ ⟨Nat.le_of_ble_eq_true rfl, Nat.le_of_ble_eq_true rfl⟩) ⟨pz_blind, va_recv hK hP (ci := 10) (q0 := q27) rfl eq27, pz_pre hP hK hD hN⟩ rfl rfl hl.1 rfl (lv_room (Nat.le_of_ble_eq_true rfl)) dX11_list_22 ⟨Nat.le_of_ble_eq_true rfl, Nat.le_of_ble_eq_true rfl⟩) (fun r28 hw29 => ?_)
    obtain ⟨hw29r, hw29p⟩ := hw29
    refine lv_if_ne (tgt := 35) hx hb dX11_list_25 (by decide) (fun c30 => ?_) (fun c30 => ?_)
    · have ic30 : r28.toInt ≠ 0 := zi_ne rfl rfl c30
      have p31 : 0 ≤ v.toInt ∧ v.toInt < o26_x5.toInt := (tp_cond.yes hw29p) (by omega)
      clear hw29r ic30
      refine lv_aload_n hx hb dX11_list_35 rfl (lv_at hl 0 rfl) ?_
      refine va_get (D := (dC, dI)) (ci := 11) (v := .ref (ρ h0 0)) (C := RX11) (T := TX11) (N := 7) hx hb hts hfX11 hown hK hP q13 eq13 rfl 0 (by decide) (hts (.fieldLink RX11 10 "ColdShips" "world" "LColdShips$World;") wa_15) (fun _ h9 => h9) rfl dX11_list_36 ?_
      refine va_getN (D := (dC, dI)) (ci := 10) (v := .ref (ρ (ρ h0 0) 10)) (C := RX10) (T := TX10) (N := 19) hx hb hts hfX10 hown hK hP q27 eq27 rfl 10 (by decide) (va_Nw.use rfl (hN.1 (.fieldLinkNest RX11 84 "ColdShips$World" "ships" "[LColdShips$Ship;" "ColdShips") nzw_69)) (fun _ h9 => h9) rfl dX11_list_39 ?_
      refine lv_iload_n hx hb dX11_list_42 rfl (lv_at hl 1 rfl) ?_
      refine tpk_25 hT y17 (fun g33 hf_o32 hf_o32e => ?_)
      refine tpk_pos (tp_in hG y17 (by decide)) hf_o32 (fun q34 eq34 => ?_)
      refine va_aldq hx hb hK hP q34 5 eq34 rfl (vp_in_iff.mpr ⟨by omega, by omega⟩) dX11_list_43 ?_
      obtain ⟨b35, hb36⟩ : ∃ b : Nat, b = ρ (ρ (ρ h0 0) 10) v.toNatClampNeg := ⟨_, rfl⟩
      have hb36t : τ b35 = 6 := by rw [hb36]; exact tpg_25 hG y17 _ (zi_cl (vp_in_iff.mpr ⟨by omega, by omega⟩))
      have hb36g : g33 v.toNatClampNeg = some b35 := by rw [hb36]; exact hf_o32e _ (zi_cl (vp_in_iff.mpr ⟨by omega, by omega⟩))
      refine W.eq (g2 := F0 m 44 ls (.ref b35 :: [])) (congrArg (fun o => F0 m 44 ls (va_rf o :: [])) hb36g) ?_
      refine tgk_6 hG hb36t (fun y37 y38 y38n y39 y39n y40 y40n y41 y41n y42 y42n y43 y43n => ?_)
      refine tpk_6 hT hb36t (fun o44_x1 o44_x2 o44_x3 o44_x4 o44_x5 o44_x6 o44_x10 o44_x11 o44_x12 o44_x14 hf_o44 ro44_0 ro44_1 ro44_2 => ?_)
      refine tpk_pos (tp_in hG hb36t (by decide)) hf_o44 (fun q45 eq45 => ?_)
      refine va_getN (D := (dC, dI)) (ci := 5) (v := .int o44_x14) (C := RX5) (T := TX5) (N := 17) hx hb hts hfX5 hown hK hP q45 eq45 rfl 14 (by decide) (va_Nw.use rfl (hN.1 (.fieldLinkNest RX11 303 "ColdShips$Ship" "list" "I" "ColdShips") nzw_45)) (fun _ h9 => h9) rfl dX11_list_44 ?_
      refine lv_istore_n (lv' := [(3, .int o44_x14), (0, .ref h0), (1, .int v), (2, .int u)]) hx hb dX11_list_47 rfl hl (by decide) rfl (fun ls hl => ?_)
      refine lv_aload_n hx hb dX11_list_48 rfl (lv_at hl 1 rfl) ?_
      refine va_get (D := (dC, dI)) (ci := 11) (v := .ref (ρ h0 0)) (C := RX11) (T := TX11) (N := 7) hx hb hts hfX11 hown hK hP q13 eq13 rfl 0 (by decide) (hts (.fieldLink RX11 10 "ColdShips" "world" "LColdShips$World;") wa_15) (fun _ h9 => h9) rfl dX11_list_49 ?_
      refine va_getN (D := (dC, dI)) (ci := 10) (v := .ref (ρ (ρ h0 0) 10)) (C := RX10) (T := TX10) (N := 19) hx hb hts hfX10 hown hK hP q27 eq27 rfl 10 (by decide) (va_Nw.use rfl (hN.1 (.fieldLinkNest RX11 84 "ColdShips$World" "ships" "[LColdShips$Ship;" "ColdShips") nzw_69)) (fun _ h9 => h9) rfl dX11_list_52 ?_
      refine lv_iload_n hx hb dX11_list_55 rfl (lv_at hl 2 rfl) ?_
      refine va_aldq hx hb hK hP q34 5 eq34 rfl (vp_in_iff.mpr ⟨by omega, by omega⟩) dX11_list_56 ?_
      obtain ⟨b46, hb47⟩ : ∃ b : Nat, b = ρ (ρ (ρ h0 0) 10) v.toNatClampNeg := ⟨_, rfl⟩
      have hb47t : τ b46 = 6 := by rw [hb47]; exact tpg_25 hG y17 _ (zi_cl (vp_in_iff.mpr ⟨by omega, by omega⟩))
      have hb47g : g33 v.toNatClampNeg = some b46 := by rw [hb47]; exact hf_o32e _ (zi_cl (vp_in_iff.mpr ⟨by omega, by omega⟩))
      refine W.eq (g2 := F0 m 57 ls (.ref b46 :: [])) (congrArg (fun o => F0 m 57 ls (va_rf o :: [])) hb47g) ?_
      refine lv_iload_n hx hb dX11_list_57 rfl (lv_at hl 3 rfl) ?_
      refine tgk_6 hG hb47t (fun y48 y49 y49n y50 y50n y51 y51n y52 y52n y53 y53n y54 y54n => ?_)
      refine tpk_6 hT hb47t (fun o55_x1 o55_x2 o55_x3 o55_x4 o55_x5 o55_x6 o55_x10 o55_x11 o55_x12 o55_x14 hf_o55 ro55_0 ro55_1 ro55_2 => ?_)
      refine tpk_pos (tp_in hG hb47t (by decide)) hf_o55 (fun q56 eq56 => ?_)
      refine va_putN (D := (dC, dI)) (ci := 5) (v := .int u) (ty := .int) (C := RX5) (T := TX5) (N := 17) hx hb hts hfX5 tyX5 tyX5_ok nmX5 hown hK hP hD hS q56 eq56 rfl 14 (by decide) (va_Nw.use rfl (hN.1 (.fieldLinkNest RX11 303 "ColdShips$Ship" "list" "I" "ColdShips") nzw_45)) (fun _ h9 => h9) rfl (tyX5_ok 14 (by decide)) rfl rfl (Nat.le_of_ble_eq_true rfl) dX11_list_58 (tp_k (.inr (5, [.ref (ρ b46 0), .int o55_x1, .int o55_x2, .int o55_x3, .int o55_x4, .int o55_x5, .int o55_x6, .ref (ρ b46 7), .ref (ρ b46 8), .ref (ρ b46 9), .int o55_x10, .int o55_x11, .int o55_x12, .ref (ρ b46 13), .int u, .ref (ρ b46 15), .ref (ρ b46 16)])) hD (tp_in hG hb47t (by decide)) eq56 (fun f57 H locs hP hD hS g59 k58 => ?_))
      have hT := hT.up hb47t g59 k58 ⟨_, _, _, _, _, _, _, _, _, _, rfl, ro55_0, ro55_1, ro55_2⟩
      have hR := hR.up hb47t (by decide) k58
      refine lv_aload_n hx hb dX11_list_61 rfl (lv_at hl 1 rfl) ?_
      refine lv_iload_n hx hb dX11_list_62 rfl (lv_at hl 0 rfl) ?_
      have hf_60 : f57 h0 = .inr (11, [.ref (ρ h0 0), .ref (ρ h0 1), .ref (ρ h0 2), .ref (ρ h0 3), .ref (ρ h0 4), .ref (ρ h0 5), .int o12_x6]) := (k58 _ (tp_ne ht_h0 hb47t (by decide))).trans hf_o12
      refine tpk_pos (tp_in hG ht_h0 (by decide)) hf_60 (fun q61 eq61 => ?_)
      have hFc := tp_fr hD hS hA
      refine va_calli (va_runV (As := [.int o44_x14]) (rest := []) ⟨hx, hb, hml, hown, hts⟩ (t_X11_accept l dC dI _ Ω κ τ ν ρ L f57 hG hT h0 o44_x14 ht_h0) (cwV 1 hts gX11_list_X11_accept rfl rfl rfl ⟨rfl, pd_X11_accept⟩ ⟨Nat.le_of_ble_eq_true rfl, Nat.le_of_ble_eq_true rfl⟩) ⟨pz_blind, va_recv hK hP (ci := 11) (q0 := q61) rfl eq61, pz_pre hP hK hD hN⟩ rfl rfl hl.1 rfl (lv_room (Nat.le_of_ble_eq_true rfl)) dX11_list_63 ⟨Nat.le_of_ble_eq_true rfl, Nat.le_of_ble_eq_true rfl⟩) hS (fun q _ h => hFc q h) hFc (fun r62 f64 t H1 locs ht hvm hw63 hB hz1 hk1 hS => ?_)
      refine tn_4 hw63 (fun hT hF65 hw63r hw63p => ?_); clear hw63
      have hR := hR.then hF65 (by decide)
      have hP := hB.1; rw [ht] at hP; have hD := tp_ad f64 hD; clear hB hFc hz1 hk1; subst ht; generalize t.heap = H at hP hS ⊢
      have hw63pq : r62.toInt = o44_x14.toInt := by rw [hw63p]
      exact W.iret (v := r62) hx hb hr (fun t ht hW => ⟨⟨r62, f64, rfl, ⟨hT, hR, trivial, trivial⟩, by rw [ht]; exact hP, va_K.moved hW.alike hK, hD⟩, hS.F ht⟩) hS.2.2 dX11_list_66
    · have ic30 : r28.toInt = 0 := zi_nef rfl rfl c30
      clear hw29r ic30
      refine lv_aload_n hx hb dX11_list_28 rfl (lv_at hl 0 rfl) ?_
      refine lv_bipush (v := (-2)) hx hb dX11_list_29 (by decide) ?_
      have hFc := tp_fr hD hS hA
      refine va_calli (va_runV (As := [.int (-2)]) (rest := []) ⟨hx, hb, hml, hown, hts⟩ (t_X11_refuse l dC dI _ Ω κ τ ν ρ L f hG hT h0 ((-2)) ht_h0) (cwV 1 hts gX11_list_X11_refuse rfl rfl rfl ⟨rfl, pd_X11_refuse⟩ ⟨Nat.le_of_ble_eq_true rfl, Nat.le_of_ble_eq_true rfl⟩) ⟨pz_blind, va_recv hK hP (ci := 11) (q0 := q13) rfl eq13, pz_pre hP hK hD hN⟩ rfl rfl hl.1 rfl (lv_room (Nat.le_of_ble_eq_true rfl)) dX11_list_31 ⟨Nat.le_of_ble_eq_true rfl, Nat.le_of_ble_eq_true rfl⟩) hS (fun q _ h => hFc q h) hFc (fun r66 f68 t H1 locs ht hvm hw67 hB hz1 hk1 hS => ?_)
      refine tn_4 hw67 (fun hT hF69 hw67r hw67p => ?_); clear hw67
      have hR := hR.then hF69 (by decide)
      have hP := hB.1; rw [ht] at hP; have hD := tp_ad f68 hD; clear hB hFc hz1 hk1; subst ht; generalize t.heap = H at hP hS ⊢
      have hw67pq : r66.toInt = (-2) := by rw [hw67p]; rfl
      exact W.iret (v := r66) hx hb hr (fun t ht hW => ⟨⟨r66, f68, rfl, ⟨hT, hR, trivial, trivial⟩, by rw [ht]; exact hP, va_K.moved hW.alike hK, hD⟩, hS.F ht⟩) hS.2.2 dX11_list_34
  · have ic3 : r1.toInt = 0 := zi_nef rfl rfl c3
    clear hw2r ic3
    refine lv_aload_n hx hb dX11_list_11 rfl (lv_at hl 0 rfl) ?_
    refine lv_iconst (v := (-1)) hx hb dX11_list_12 (by decide) ?_
    refine tgk_12 hG ht_h0 (fun y70 y70l y71 y72 y73 y74 y75 y76a y76b y76c => ?_)
    refine tpk_12 hT ht_h0 (fun o77_x6 hf_o77 => ?_)
    refine tpk_pos (tp_in hG ht_h0 (by decide)) hf_o77 (fun q78 eq78 => ?_)
    have hFc := tp_fr hD hS hA
    refine va_calli (va_runV (As := [.int (-1)]) (rest := []) ⟨hx, hb, hml, hown, hts⟩ (t_X11_refuse l dC dI _ Ω κ τ ν ρ L f hG hT h0 ((-1)) ht_h0) (cwV 1 hts gX11_list_X11_refuse rfl rfl rfl ⟨rfl, pd_X11_refuse⟩ ⟨Nat.le_of_ble_eq_true rfl, Nat.le_of_ble_eq_true rfl⟩) ⟨pz_blind, va_recv hK hP (ci := 11) (q0 := q78) rfl eq78, pz_pre hP hK hD hN⟩ rfl rfl hl.1 rfl (lv_room (Nat.le_of_ble_eq_true rfl)) dX11_list_13 ⟨Nat.le_of_ble_eq_true rfl, Nat.le_of_ble_eq_true rfl⟩) hS (fun q _ h => hFc q h) hFc (fun r79 f81 t H1 locs ht hvm hw80 hB hz1 hk1 hS => ?_)
    refine tn_4 hw80 (fun hT hF82 hw80r hw80p => ?_); clear hw80
    have hR := hR.then hF82 (by decide)
    have hP := hB.1; rw [ht] at hP; have hD := tp_ad f81 hD; clear hB hFc hz1 hk1; subst ht; generalize t.heap = H at hP hS ⊢
    have hw80pq : r79.toInt = (-1) := by rw [hw80p]; rfl
    exact W.iret (v := r79) hx hb hr (fun t ht hW => ⟨⟨r79, f81, rfl, ⟨hT, hR, trivial, trivial⟩, by rw [ht]; exact hP, va_K.moved hW.alike hK, hD⟩, hS.F ht⟩) hS.2.2 dX11_list_16
set_option maxHeartbeats 4000000 in
set_option maxRecDepth 100000 in
theorem t_X11_reading (l : Launch) (dC : Nat → ClassId) (dI : Nat → Nat → Nat) (sz : Nat) (Ω : Nat → Nat → (Nat → Nat) → va_E → Prop) (κ : Nat → ClassId) (τ ν : Nat → Nat) (ρ : Nat → Nat → Nat) (L : List Nat) (f : Nat → va_E) (hG : tp_G τ ν ρ L) (hT : tp_T Ω κ τ ν ρ f) (h0 : Nat) (v : Int32) (u : Int32) (a : Int32) (b : Int32) (a5 : Int32) (ht_h0 : τ h0 = 12) : Met l yX11_reading wqX11_reading ({ frames := 5, cells := 0, slots := 0, locals := 1600 }) (va_Pc [.ref h0, .int v, .int u, .int a, .int b, .int a5] (pz_B dC dI (tp_K κ) (va_pl L f) sz)) (va_Qi (fun (r : Int32) (f1 : Nat → va_E) => tp_T Ω κ τ ν ρ f1 ∧ tp_F τ [5, 12, 21] f f1 ∧ True ∧ tp_X τ ρ (fun n => n = 16) f f1) (fun (f1 : Nat → va_E) (t : State) => pz_E dC dI (tp_K κ) (va_A (va_pl L f) sz) (va_pl L f1) t) (va_A (va_pl L f) sz)) 0 0 (va_A (va_pl L f) sz) := by
  refine Met.ofW (cc := cX11_reading) (maxL := 7) (ret := some .int) (by decide) rfl ?_
  intro p e s m args below meth c s₁ B hml hv
  obtain ⟨rfl, hsz, hP, hK, hD0, hN⟩ := hv
  have hx := B.exec
  have hb := B.bytes
  have hr := B.returns
  have hts := fun (w : Cond) (h : w ∈ WALL) => atoms_spec (ws := wqX11_reading) B.pre w (List.mem_cons_of_mem _ h)
  have hown : s.vm.findClass RX11 = some m.cls := findClass_of_methodNamed B.named
  have hlocks := B.notSynchronized
  subst hsz
  have hD := hD0.self (sz := s.heap.size)
  generalize hAe : va_A (va_pl L f) s.heap.size = A at hD ⊢
  have hA : ∀ q : Nat, s.heap.size ≤ q → A q := fun q h => by rw [← hAe]; exact Or.inr h
  have hS : va_S A s.heap s.heap [] := va_S.rf
  have hR : tp_F τ [5, 12, 21] f f := tp_F.rf
  have hX : tp_X τ ρ (fun n => n = 16) f f := tp_X.rf
  have hl := lv_entry ([.ref h0, .int v, .int u, .int a, .int b, .int a5]) (n := 7) (Nat.le_of_ble_eq_true rfl)
  rw [lg_entry_eq]
  generalize (lg_sl ([.ref h0, .int v, .int u, .int a, .int b, .int a5]) ++ List.replicate (7 - (lg_sl ([.ref h0, .int v, .int u, .int a, .int b, .int a5])).length) Slot.unset).toArray = ls at hl ⊢
  have hl : lv_has ls 7 [(0, .ref h0), (1, .int v), (2, .int u), (3, .int a), (4, .int b), (5, .int a5)] := hl
  refine lv_iload_n hx hb dX11_reading_0 rfl (lv_at hl 2 rfl) ?_
  refine lv_iconst (v := 0) hx hb dX11_reading_1 (by decide) ?_
  refine lv_iconst (v := 1) hx hb dX11_reading_2 (by decide) ?_
  refine pz_calli (va_runS (As := [.int u, .int 0, .int 1]) (rest := []) ⟨hx, hb, hml, hown, hts⟩ (t_X11_within l dC dI _ u (0) (1) (u.toInt) (0) (1) rfl rfl rfl) (va_cwS 3 hts gX11_reading_X11_within rfl rfl rfl pd_X11_within ⟨Nat.le_of_ble_eq_true rfl, Nat.le_of_ble_eq_true rfl⟩) ⟨pz_blind, pz_pre pz_P0 (hK.sub (tys' := []) [] rfl) (pz_D0 (A := fun _ => True)) hN⟩ rfl rfl hl.1 rfl (lv_room (Nat.le_of_ble_eq_true rfl)) dX11_reading_3 ⟨Nat.le_of_ble_eq_true rfl, Nat.le_of_ble_eq_true rfl⟩) (fun r1 hw2 => ?_)
  obtain ⟨hw2r, hw2p⟩ := hw2
  refine lv_if_eq (tgt := 40) hx hb dX11_reading_6 (by decide) (fun c3 => ?_) (fun c3 => ?_)
  · have ic3 : r1.toInt = 0 := zi_eq rfl rfl c3
    have p4 : ¬ ((0) ≤ (u.toInt) ∧ (u.toInt) ≤ (1)) := (tp_cond.no hw2p) (by omega)
    clear hw2r ic3
    refine lv_aload_n hx hb dX11_reading_40 rfl (lv_at hl 0 rfl) ?_
    refine lv_iconst (v := (-1)) hx hb dX11_reading_41 (by decide) ?_
    refine tgk_12 hG ht_h0 (fun y5 y5l y6 y7 y8 y9 y10 y11a y11b y11c => ?_)
    refine tpk_12 hT ht_h0 (fun o12_x6 hf_o12 => ?_)
    refine tpk_pos (tp_in hG ht_h0 (by decide)) hf_o12 (fun q13 eq13 => ?_)
    have hFc := tp_fr hD hS hA
    refine va_calli (va_runV (As := [.int (-1)]) (rest := []) ⟨hx, hb, hml, hown, hts⟩ (t_X11_refuse l dC dI _ Ω κ τ ν ρ L f hG hT h0 ((-1)) ht_h0) (cwV 1 hts gX11_reading_X11_refuse rfl rfl rfl ⟨rfl, pd_X11_refuse⟩ ⟨Nat.le_of_ble_eq_true rfl, Nat.le_of_ble_eq_true rfl⟩) ⟨pz_blind, va_recv hK hP (ci := 11) (q0 := q13) rfl eq13, pz_pre hP hK hD hN⟩ rfl rfl hl.1 rfl (lv_room (Nat.le_of_ble_eq_true rfl)) dX11_reading_42 ⟨Nat.le_of_ble_eq_true rfl, Nat.le_of_ble_eq_true rfl⟩) hS (fun q _ h => hFc q h) hFc (fun r14 f16 t H1 locs ht hvm hw15 hB hz1 hk1 hS => ?_)
    refine tn_4 hw15 (fun hT hF17 hw15r hw15p => ?_); clear hw15
    have hR := hR.then hF17 (by decide)
    have hX := hX.fr hF17 (by decide)
    have hP := hB.1; rw [ht] at hP; have hD := tp_ad f16 hD; clear hB hFc hz1 hk1; subst ht; generalize t.heap = H at hP hS ⊢
    have hw15pq : r14.toInt = (-1) := by rw [hw15p]; rfl
    exact W.iret (v := r14) hx hb hr (fun t ht hW => ⟨⟨r14, f16, rfl, ⟨hT, hR, trivial, hX⟩, by rw [ht]; exact hP, va_K.moved hW.alike hK, hD⟩, hS.F ht⟩) hS.2.2 dX11_reading_45
  · have ic3 : r1.toInt ≠ 0 := zi_eqf rfl rfl c3
    have p18 : (0) ≤ (u.toInt) ∧ (u.toInt) ≤ (1) := (tp_cond.yes hw2p) (by omega)
    clear hw2r ic3
    refine lv_iload_n hx hb dX11_reading_9 rfl (lv_at hl 3 rfl) ?_
    refine lv_iconst (v := 0) hx hb dX11_reading_10 (by decide) ?_
    refine lv_sipush (v := 5000) hx hb dX11_reading_11 (by decide) ?_
    refine pz_calli (va_runS (As := [.int a, .int 0, .int 5000]) (rest := []) ⟨hx, hb, hml, hown, hts⟩ (t_X11_within l dC dI _ a (0) (5000) (a.toInt) (0) (5000) rfl rfl rfl) (va_cwS 3 hts gX11_reading_X11_within rfl rfl rfl pd_X11_within ⟨Nat.le_of_ble_eq_true rfl, Nat.le_of_ble_eq_true rfl⟩) ⟨pz_blind, pz_pre pz_P0 (hK.sub (tys' := []) [] rfl) (pz_D0 (A := fun _ => True)) hN⟩ rfl rfl hl.1 rfl (lv_room (Nat.le_of_ble_eq_true rfl)) dX11_reading_14 ⟨Nat.le_of_ble_eq_true rfl, Nat.le_of_ble_eq_true rfl⟩) (fun r19 hw20 => ?_)
    obtain ⟨hw20r, hw20p⟩ := hw20
    refine lv_if_eq (tgt := 40) hx hb dX11_reading_17 (by decide) (fun c21 => ?_) (fun c21 => ?_)
    · have ic21 : r19.toInt = 0 := zi_eq rfl rfl c21
      have p22 : ¬ ((0) ≤ (a.toInt) ∧ (a.toInt) ≤ (5000)) := (tp_cond.no hw20p) (by omega)
      clear hw20r ic21
      refine lv_aload_n hx hb dX11_reading_40 rfl (lv_at hl 0 rfl) ?_
      refine lv_iconst (v := (-1)) hx hb dX11_reading_41 (by decide) ?_
      refine tgk_12 hG ht_h0 (fun y23 y23l y24 y25 y26 y27 y28 y29a y29b y29c => ?_)
      refine tpk_12 hT ht_h0 (fun o30_x6 hf_o30 => ?_)
      refine tpk_pos (tp_in hG ht_h0 (by decide)) hf_o30 (fun q31 eq31 => ?_)
      have hFc := tp_fr hD hS hA
      refine va_calli (va_runV (As := [.int (-1)]) (rest := []) ⟨hx, hb, hml, hown, hts⟩ (t_X11_refuse l dC dI _ Ω κ τ ν ρ L f hG hT h0 ((-1)) ht_h0) (cwV 1 hts gX11_reading_X11_refuse rfl rfl rfl ⟨rfl, pd_X11_refuse⟩ ⟨Nat.le_of_ble_eq_true rfl, Nat.le_of_ble_eq_true rfl⟩) ⟨pz_blind, va_recv hK hP (ci := 11) (q0 := q31) rfl eq31, pz_pre hP hK hD hN⟩ rfl rfl hl.1 rfl (lv_room (Nat.le_of_ble_eq_true rfl)) dX11_reading_42 ⟨Nat.le_of_ble_eq_true rfl, Nat.le_of_ble_eq_true rfl⟩) hS (fun q _ h => hFc q h) hFc (fun r32 f34 t H1 locs ht hvm hw33 hB hz1 hk1 hS => ?_)
      refine tn_4 hw33 (fun hT hF35 hw33r hw33p => ?_); clear hw33
      have hR := hR.then hF35 (by decide)
      have hX := hX.fr hF35 (by decide)
      have hP := hB.1; rw [ht] at hP; have hD := tp_ad f34 hD; clear hB hFc hz1 hk1; subst ht; generalize t.heap = H at hP hS ⊢
      have hw33pq : r32.toInt = (-1) := by rw [hw33p]; rfl
      exact W.iret (v := r32) hx hb hr (fun t ht hW => ⟨⟨r32, f34, rfl, ⟨hT, hR, trivial, hX⟩, by rw [ht]; exact hP, va_K.moved hW.alike hK, hD⟩, hS.F ht⟩) hS.2.2 dX11_reading_45
    · have ic21 : r19.toInt ≠ 0 := zi_eqf rfl rfl c21
      have p36 : (0) ≤ (a.toInt) ∧ (a.toInt) ≤ (5000) := (tp_cond.yes hw20p) (by omega)
      clear hw20r ic21
      refine lv_iload hx hb dX11_reading_20 (lv_at hl 4 rfl) ?_
      refine lv_bipush (v := (-20)) hx hb dX11_reading_22 (by decide) ?_
      refine lv_bipush (v := 20) hx hb dX11_reading_24 (by decide) ?_
      refine pz_calli (va_runS (As := [.int b, .int (-20), .int 20]) (rest := []) ⟨hx, hb, hml, hown, hts⟩ (t_X11_within l dC dI _ b ((-20)) (20) (b.toInt) ((-20)) (20) rfl rfl rfl) (va_cwS 3 hts gX11_reading_X11_within rfl rfl rfl pd_X11_within ⟨Nat.le_of_ble_eq_true rfl, Nat.le_of_ble_eq_true rfl⟩) ⟨pz_blind, pz_pre pz_P0 (hK.sub (tys' := []) [] rfl) (pz_D0 (A := fun _ => True)) hN⟩ rfl rfl hl.1 rfl (lv_room (Nat.le_of_ble_eq_true rfl)) dX11_reading_26 ⟨Nat.le_of_ble_eq_true rfl, Nat.le_of_ble_eq_true rfl⟩) (fun r37 hw38 => ?_)
      obtain ⟨hw38r, hw38p⟩ := hw38
      refine lv_if_eq (tgt := 40) hx hb dX11_reading_29 (by decide) (fun c39 => ?_) (fun c39 => ?_)
      · have ic39 : r37.toInt = 0 := zi_eq rfl rfl c39
        have p40 : ¬ (((-20)) ≤ (b.toInt) ∧ (b.toInt) ≤ (20)) := (tp_cond.no hw38p) (by omega)
        clear hw38r ic39
        refine lv_aload_n hx hb dX11_reading_40 rfl (lv_at hl 0 rfl) ?_
        refine lv_iconst (v := (-1)) hx hb dX11_reading_41 (by decide) ?_
        refine tgk_12 hG ht_h0 (fun y41 y41l y42 y43 y44 y45 y46 y47a y47b y47c => ?_)
        refine tpk_12 hT ht_h0 (fun o48_x6 hf_o48 => ?_)
        refine tpk_pos (tp_in hG ht_h0 (by decide)) hf_o48 (fun q49 eq49 => ?_)
        have hFc := tp_fr hD hS hA
        refine va_calli (va_runV (As := [.int (-1)]) (rest := []) ⟨hx, hb, hml, hown, hts⟩ (t_X11_refuse l dC dI _ Ω κ τ ν ρ L f hG hT h0 ((-1)) ht_h0) (cwV 1 hts gX11_reading_X11_refuse rfl rfl rfl ⟨rfl, pd_X11_refuse⟩ ⟨Nat.le_of_ble_eq_true rfl, Nat.le_of_ble_eq_true rfl⟩) ⟨pz_blind, va_recv hK hP (ci := 11) (q0 := q49) rfl eq49, pz_pre hP hK hD hN⟩ rfl rfl hl.1 rfl (lv_room (Nat.le_of_ble_eq_true rfl)) dX11_reading_42 ⟨Nat.le_of_ble_eq_true rfl, Nat.le_of_ble_eq_true rfl⟩) hS (fun q _ h => hFc q h) hFc (fun r50 f52 t H1 locs ht hvm hw51 hB hz1 hk1 hS => ?_)
        refine tn_4 hw51 (fun hT hF53 hw51r hw51p => ?_); clear hw51
        have hR := hR.then hF53 (by decide)
        have hX := hX.fr hF53 (by decide)
        have hP := hB.1; rw [ht] at hP; have hD := tp_ad f52 hD; clear hB hFc hz1 hk1; subst ht; generalize t.heap = H at hP hS ⊢
        have hw51pq : r50.toInt = (-1) := by rw [hw51p]; rfl
        exact W.iret (v := r50) hx hb hr (fun t ht hW => ⟨⟨r50, f52, rfl, ⟨hT, hR, trivial, hX⟩, by rw [ht]; exact hP, va_K.moved hW.alike hK, hD⟩, hS.F ht⟩) hS.2.2 dX11_reading_45
      · have ic39 : r37.toInt ≠ 0 := zi_eqf rfl rfl c39
        have p54 : ((-20)) ≤ (b.toInt) ∧ (b.toInt) ≤ (20) := (tp_cond.yes hw38p) (by omega)
        clear hw38r ic39
        refine lv_iload hx hb dX11_reading_32 (lv_at hl 5 rfl) ?_
        refine pz_calli (va_runS (As := [.int a5]) (rest := []) ⟨hx, hb, hml, hown, hts⟩ (t_X11_isHour l dC dI _ a5 (a5.toInt) rfl) (va_cwS 1 hts gX11_reading_X11_isHour rfl rfl rfl pd_X11_isHour ⟨Nat.le_of_ble_eq_true rfl, Nat.le_of_ble_eq_true rfl⟩) ⟨pz_blind, pz_pre pz_P0 (hK.sub (tys' := []) [] rfl) (pz_D0 (A := fun _ => True)) hN⟩ rfl rfl hl.1 rfl (lv_room (Nat.le_of_ble_eq_true rfl)) dX11_reading_34 ⟨Nat.le_of_ble_eq_true rfl, Nat.le_of_ble_eq_true rfl⟩) (fun r55 hw56 => ?_)
        obtain ⟨hw56r, hw56p⟩ := hw56
        refine lv_if_ne (tgt := 46) hx hb dX11_reading_37 (by decide) (fun c57 => ?_) (fun c57 => ?_)
        · have ic57 : r55.toInt ≠ 0 := zi_ne rfl rfl c57
          have p58 : 0 ≤ (a5.toInt) ∧ (a5.toInt) ≤ 2399 := (tp_cond.yes hw56p) (by omega)
          clear hw56r ic57
          refine lv_aload_n hx hb dX11_reading_46 rfl (lv_at hl 0 rfl) ?_
          refine tgk_12 hG ht_h0 (fun y59 y59l y60 y61 y62 y63 y64 y65a y65b y65c => ?_)
          refine tpk_12 hT ht_h0 (fun o66_x6 hf_o66 => ?_)
          refine tpk_pos (tp_in hG ht_h0 (by decide)) hf_o66 (fun q67 eq67 => ?_)
          refine va_get (D := (dC, dI)) (ci := 11) (v := .ref (ρ h0 0)) (C := RX11) (T := TX11) (N := 7) hx hb hts hfX11 hown hK hP q67 eq67 rfl 0 (by decide) (hts (.fieldLink RX11 10 "ColdShips" "world" "LColdShips$World;") wa_15) (fun _ h9 => h9) rfl dX11_reading_47 ?_
          refine tgk_11 hG y59 (fun y68 y68n y69 y69n y70 y71 y72 y73 y73m y73l y74 y74m y74l y75 y75m y75l y76 y76w y76m y76l y77 y77w y77m y77l y78 y78w y78m y78l y79 y79w y79m y79l => ?_)
          refine tpk_11 hT y59 (fun o80_x0 o80_x1 o80_x2 o80_x3 o80_x4 o80_x5 o80_x6 hf_o80 ro80_0 ro80_1 ro80_2 ro80_3 => ?_)
          refine tpk_pos (tp_in hG y59 (by decide)) hf_o80 (fun q81 eq81 => ?_)
          refine va_getN (D := (dC, dI)) (ci := 10) (v := .ref (ρ (ρ h0 0) 17)) (C := RX10) (T := TX10) (N := 19) hx hb hts hfX10 hown hK hP q81 eq81 rfl 17 (by decide) (va_Nw.use rfl (hN.1 (.fieldLinkNest RX11 207 "ColdShips$World" "landings" "LColdShips$Rows;" "ColdShips") nzw_85)) (fun _ h9 => h9) rfl dX11_reading_50 ?_
          refine lv_iload_n hx hb dX11_reading_53 rfl (lv_at hl 1 rfl) ?_
          refine tgk_5 hG y78 (fun y82 y82n y83a y83b y83c => ?_)
          refine tpk_5 hT y78 (fun o84_x0 o84_x2 hf_o84 ro84_0 ro84_1 => ?_)
          refine tpk_pos (tp_in hG y78 (by decide)) hf_o84 (fun q85 eq85 => ?_)
          have ro84_0 := tp_hu ro84_0; have ro84_1 := tp_hu ro84_1
          refine pz_calli (va_runV (As := [.int v]) (rest := []) ⟨hx, hb, hml, hown, hts⟩ (t_X4_has l dC dI _ Ω κ τ ν ρ L f hG hT (ρ (ρ h0 0) 17) v y78 o84_x0 o84_x2 hf_o84) (cwV 1 hts gX11_reading_X4_has rfl rfl rfl ⟨rfl, pd_X4_has⟩ ⟨Nat.le_of_ble_eq_true rfl, Nat.le_of_ble_eq_true rfl⟩) ⟨pz_blind, va_recv hK hP (ci := 4) (q0 := q85) rfl eq85, pz_pre hP hK hD hN⟩ rfl rfl hl.1 rfl (lv_room (Nat.le_of_ble_eq_true rfl)) dX11_reading_54 ⟨Nat.le_of_ble_eq_true rfl, Nat.le_of_ble_eq_true rfl⟩) (fun r86 hw87 => ?_)
          obtain ⟨hw87r, hw87p⟩ := hw87
          refine lv_if_ne (tgt := 67) hx hb dX11_reading_57 (by decide) (fun c88 => ?_) (fun c88 => ?_)
          · have ic88 : r86.toInt ≠ 0 := zi_ne rfl rfl c88
            have p89 : 0 ≤ v.toInt ∧ v.toInt < o84_x2.toInt := (tp_cond.yes hw87p) (by omega)
            clear hw87r ic88
            refine lv_aload_n hx hb dX11_reading_67 rfl (lv_at hl 0 rfl) ?_
            refine va_get (D := (dC, dI)) (ci := 11) (v := .ref (ρ h0 0)) (C := RX11) (T := TX11) (N := 7) hx hb hts hfX11 hown hK hP q67 eq67 rfl 0 (by decide) (hts (.fieldLink RX11 10 "ColdShips" "world" "LColdShips$World;") wa_15) (fun _ h9 => h9) rfl dX11_reading_68 ?_
            refine va_getN (D := (dC, dI)) (ci := 10) (v := .ref (ρ (ρ h0 0) 16)) (C := RX10) (T := TX10) (N := 19) hx hb hts hfX10 hown hK hP q81 eq81 rfl 16 (by decide) (va_Nw.use rfl (hN.1 (.fieldLinkNest RX11 306 "ColdShips$World" "readings" "LColdShips$Rows;" "ColdShips") nzw_82)) (fun _ h9 => h9) rfl dX11_reading_71 ?_
            refine tgk_5 hG y77 (fun y90 y90n y91a y91b y91c => ?_)
            refine tpk_5 hT y77 (fun o92_x0 o92_x2 hf_o92 ro92_0 ro92_1 => ?_)
            refine tpk_pos (tp_in hG y77 (by decide)) hf_o92 (fun q93 eq93 => ?_)
            have hFc := tp_fr hD hS hA
            have ro92_0 := tp_hu ro92_0; have ro92_1 := tp_hu ro92_1
            refine va_calli (va_runV (As := []) (rest := []) ⟨hx, hb, hml, hown, hts⟩ (t_X4_addRow l dC dI _ Ω κ τ ν ρ L f hG hT (ρ (ρ h0 0) 16) y77 o92_x0 o92_x2 hf_o92) (cwV 0 hts gX11_reading_X4_addRow rfl rfl rfl ⟨rfl, pd_X4_addRow⟩ ⟨Nat.le_of_ble_eq_true rfl, Nat.le_of_ble_eq_true rfl⟩) ⟨pz_blind, va_recv hK hP (ci := 4) (q0 := q93) rfl eq93, pz_pre hP hK hD hN⟩ rfl rfl hl.1 rfl (lv_room (Nat.le_of_ble_eq_true rfl)) dX11_reading_74 ⟨Nat.le_of_ble_eq_true rfl, Nat.le_of_ble_eq_true rfl⟩) hS (fun q _ h => hFc q h) hFc (fun r94 f96 t H1 locs ht hvm hw95 hB hz1 hk1 hS => ?_)
            refine tn_4 hw95 (fun hT hF97 hw95r hw95p => ?_); clear hw95
            have hR := hR.then hF97 (by decide)
            obtain ⟨hw95x, hw95p⟩ := hw95p
            have hX := hX.th hw95x (fun n q9 => by have q8 : n = ρ (ρ (ρ h0 0) 16) 30 := q9; show n = 16; omega)
            have hP := hB.1; rw [ht] at hP; have hD := tp_ad f96 hD; clear hB hFc hz1 hk1; subst ht; generalize t.heap = H at hP hS ⊢
            refine tpk_5 hT y77 (fun o98_x0 o98_x2 hf_o98 ro98_0 ro98_1 => ?_)
            have ro98_1 := tp_hu ro98_1
            have tv99 : tp_fld (f96 (ρ (ρ h0 0) 16)) 2 = o98_x2.toInt := by rw [hf_o98]; rfl
            have pl100 : ((((o92_x2.toInt = (ρ (ρ (ρ h0 0) 16) 11 : Int)) → r94.toInt = -1) ∧ (¬ (o92_x2.toInt = (ρ (ρ (ρ h0 0) 16) 11 : Int)) → r94.toInt = o92_x2.toInt))) ∧ ((((o92_x2.toInt = (ρ (ρ (ρ h0 0) 16) 11 : Int)) → o98_x2.toInt = o92_x2.toInt) ∧ (¬ (o92_x2.toInt = (ρ (ρ (ρ h0 0) 16) 11 : Int)) → o98_x2.toInt = o92_x2.toInt + 1))) := by have q9 := hw95p; rw [tv99] at q9; exact q9
            refine lv_istore (lv' := [(6, .int r94), (0, .ref h0), (1, .int v), (2, .int u), (3, .int a), (4, .int b), (5, .int a5)]) hx hb dX11_reading_77 hl (by decide) rfl (fun ls hl => ?_)
            refine lv_iload hx hb dX11_reading_79 (lv_at hl 0 rfl) ?_
            refine lv_iconst (v := (-1)) hx hb dX11_reading_81 (by decide) ?_
            refine lv_icmp_ne (tgt := 92) hx hb dX11_reading_82 (by decide) (fun c101 => ?_) (fun c101 => ?_)
            · have ic101 : r94.toInt ≠ (-1) := zi_ne rfl rfl c101
              refine lv_aload_n hx hb dX11_reading_92 rfl (lv_at hl 1 rfl) ?_
              have hf_102 : f96 h0 = .inr (11, [.ref (ρ h0 0), .ref (ρ h0 1), .ref (ρ h0 2), .ref (ρ h0 3), .ref (ρ h0 4), .ref (ρ h0 5), .int o66_x6]) := (hF97 _ (by rw [ht_h0]; decide)).trans hf_o66
              refine tpk_pos (tp_in hG ht_h0 (by decide)) hf_102 (fun q103 eq103 => ?_)
              refine va_get (D := (dC, dI)) (ci := 11) (v := .ref (ρ h0 0)) (C := RX11) (T := TX11) (N := 7) hx hb hts hfX11 hown hK hP q103 eq103 rfl 0 (by decide) (hts (.fieldLink RX11 10 "ColdShips" "world" "LColdShips$World;") wa_15) (fun _ h9 => h9) rfl dX11_reading_93 ?_
              have hf_104 : f96 (ρ h0 0) = .inr (10, [.int o80_x0, .int o80_x1, .int o80_x2, .int o80_x3, .int o80_x4, .int o80_x5, .int o80_x6, .ref (ρ (ρ h0 0) 7), .ref (ρ (ρ h0 0) 8), .ref (ρ (ρ h0 0) 9), .ref (ρ (ρ h0 0) 10), .ref (ρ (ρ h0 0) 11), .ref (ρ (ρ h0 0) 12), .ref (ρ (ρ h0 0) 13), .ref (ρ (ρ h0 0) 14), .ref (ρ (ρ h0 0) 15), .ref (ρ (ρ h0 0) 16), .ref (ρ (ρ h0 0) 17), .ref (ρ (ρ h0 0) 18)]) := (hF97 _ (by rw [tp_iu y59]; decide)).trans hf_o80
              refine tpk_pos (tp_in hG y59 (by decide)) hf_104 (fun q105 eq105 => ?_)
              refine va_getN (D := (dC, dI)) (ci := 10) (v := .ref (ρ (ρ h0 0) 16)) (C := RX10) (T := TX10) (N := 19) hx hb hts hfX10 hown hK hP q105 eq105 rfl 16 (by decide) (va_Nw.use rfl (hN.1 (.fieldLinkNest RX11 306 "ColdShips$World" "readings" "LColdShips$Rows;" "ColdShips") nzw_82)) (fun _ h9 => h9) rfl dX11_reading_96 ?_
              refine lv_iload hx hb dX11_reading_99 (lv_at hl 0 rfl) ?_
              refine lv_iconst (v := 0) hx hb dX11_reading_101 (by decide) ?_
              refine lv_iload_n hx hb dX11_reading_102 rfl (lv_at hl 2 rfl) ?_
              refine lv_i2l hx hb dX11_reading_103 rfl ?_
              refine tpk_pos (tp_in hG y77 (by decide)) hf_o98 (fun q106 eq106 => ?_)
              have hFc := tp_fr hD hS hA
              have ro98_0 := tp_hu ro98_0
              refine va_callv (va_runV (As := [.int r94, .int 0, .long v.toInt64]) (rest := []) ⟨hx, hb, hml, hown, hts⟩ (t_X4_set l dC dI _ Ω κ τ ν ρ L f96 hG hT (ρ (ρ h0 0) 16) r94 (0) v.toInt64 y77 o98_x0 o98_x2 hf_o98) (cwV 3 hts gX11_reading_X4_set rfl rfl rfl ⟨rfl, pd_X4_set⟩ ⟨Nat.le_of_ble_eq_true rfl, Nat.le_of_ble_eq_true rfl⟩) ⟨pz_blind, va_recv hK hP (ci := 4) (q0 := q106) rfl eq106, pz_pre hP hK hD hN⟩ rfl rfl hl.1 rfl (lv_room (Nat.le_of_ble_eq_true rfl)) dX11_reading_104 ⟨Nat.le_of_ble_eq_true rfl, Nat.le_of_ble_eq_true rfl⟩) hS (fun q _ h => hFc q h) hFc (fun f109 t H1 locs ht hvm hw108 hB hz1 hk1 hS => ?_)
              refine tn_3 hw108 (fun hT hF110 hw108p => ?_); clear hw108
              have hR := hR.then hF110 (by decide)
              have hX := hX.fr hF110 (by decide)
              have hP := hB.1; rw [ht] at hP; have hD := tp_ad f109 hD; clear hB hFc hz1 hk1; subst ht; generalize t.heap = H at hP hS ⊢
              refine lv_aload_n hx hb dX11_reading_107 rfl (lv_at hl 1 rfl) ?_
              have hf_111 : f109 h0 = .inr (11, [.ref (ρ h0 0), .ref (ρ h0 1), .ref (ρ h0 2), .ref (ρ h0 3), .ref (ρ h0 4), .ref (ρ h0 5), .int o66_x6]) := (hF110 _ (by rw [ht_h0]; decide)).trans hf_102
              refine tpk_pos (tp_in hG ht_h0 (by decide)) hf_111 (fun q112 eq112 => ?_)
              refine va_get (D := (dC, dI)) (ci := 11) (v := .ref (ρ h0 0)) (C := RX11) (T := TX11) (N := 7) hx hb hts hfX11 hown hK hP q112 eq112 rfl 0 (by decide) (hts (.fieldLink RX11 10 "ColdShips" "world" "LColdShips$World;") wa_15) (fun _ h9 => h9) rfl dX11_reading_108 ?_
              have hf_113 : f109 (ρ h0 0) = .inr (10, [.int o80_x0, .int o80_x1, .int o80_x2, .int o80_x3, .int o80_x4, .int o80_x5, .int o80_x6, .ref (ρ (ρ h0 0) 7), .ref (ρ (ρ h0 0) 8), .ref (ρ (ρ h0 0) 9), .ref (ρ (ρ h0 0) 10), .ref (ρ (ρ h0 0) 11), .ref (ρ (ρ h0 0) 12), .ref (ρ (ρ h0 0) 13), .ref (ρ (ρ h0 0) 14), .ref (ρ (ρ h0 0) 15), .ref (ρ (ρ h0 0) 16), .ref (ρ (ρ h0 0) 17), .ref (ρ (ρ h0 0) 18)]) := (hF110 _ (by rw [tp_iu y59]; decide)).trans hf_104
              refine tpk_pos (tp_in hG y59 (by decide)) hf_113 (fun q114 eq114 => ?_)
              refine va_getN (D := (dC, dI)) (ci := 10) (v := .ref (ρ (ρ h0 0) 16)) (C := RX10) (T := TX10) (N := 19) hx hb hts hfX10 hown hK hP q114 eq114 rfl 16 (by decide) (va_Nw.use rfl (hN.1 (.fieldLinkNest RX11 306 "ColdShips$World" "readings" "LColdShips$Rows;" "ColdShips") nzw_82)) (fun _ h9 => h9) rfl dX11_reading_111 ?_
              refine lv_iload hx hb dX11_reading_114 (lv_at hl 0 rfl) ?_
              refine lv_iconst (v := 1) hx hb dX11_reading_116 (by decide) ?_
              refine lv_iload_n hx hb dX11_reading_117 rfl (lv_at hl 3 rfl) ?_
              refine lv_i2l hx hb dX11_reading_118 rfl ?_
              have hf_115 : f109 (ρ (ρ h0 0) 16) = .inr (4, [.int o98_x0, .ref (ρ (ρ (ρ h0 0) 16) 1), .int o98_x2]) := (hF110 _ (by rw [tp_iu y77]; decide)).trans hf_o98
              refine tpk_pos (tp_in hG y77 (by decide)) hf_115 (fun q116 eq116 => ?_)
              have hFc := tp_fr hD hS hA
              refine va_callv (va_runV (As := [.int r94, .int 1, .long u.toInt64]) (rest := []) ⟨hx, hb, hml, hown, hts⟩ (t_X4_set l dC dI _ Ω κ τ ν ρ L f109 hG hT (ρ (ρ h0 0) 16) r94 (1) u.toInt64 y77 o98_x0 o98_x2 hf_115) (cwV 3 hts gX11_reading_X4_set rfl rfl rfl ⟨rfl, pd_X4_set⟩ ⟨Nat.le_of_ble_eq_true rfl, Nat.le_of_ble_eq_true rfl⟩) ⟨pz_blind, va_recv hK hP (ci := 4) (q0 := q116) rfl eq116, pz_pre hP hK hD hN⟩ rfl rfl hl.1 rfl (lv_room (Nat.le_of_ble_eq_true rfl)) dX11_reading_119 ⟨Nat.le_of_ble_eq_true rfl, Nat.le_of_ble_eq_true rfl⟩) hS (fun q _ h => hFc q h) hFc (fun f119 t H1 locs ht hvm hw118 hB hz1 hk1 hS => ?_)
              refine tn_3 hw118 (fun hT hF120 hw118p => ?_); clear hw118
              have hR := hR.then hF120 (by decide)
              have hX := hX.fr hF120 (by decide)
              have hP := hB.1; rw [ht] at hP; have hD := tp_ad f119 hD; clear hB hFc hz1 hk1; subst ht; generalize t.heap = H at hP hS ⊢
              refine lv_aload_n hx hb dX11_reading_122 rfl (lv_at hl 1 rfl) ?_
              have hf_121 : f119 h0 = .inr (11, [.ref (ρ h0 0), .ref (ρ h0 1), .ref (ρ h0 2), .ref (ρ h0 3), .ref (ρ h0 4), .ref (ρ h0 5), .int o66_x6]) := (hF120 _ (by rw [ht_h0]; decide)).trans hf_111
              refine tpk_pos (tp_in hG ht_h0 (by decide)) hf_121 (fun q122 eq122 => ?_)
              refine va_get (D := (dC, dI)) (ci := 11) (v := .ref (ρ h0 0)) (C := RX11) (T := TX11) (N := 7) hx hb hts hfX11 hown hK hP q122 eq122 rfl 0 (by decide) (hts (.fieldLink RX11 10 "ColdShips" "world" "LColdShips$World;") wa_15) (fun _ h9 => h9) rfl dX11_reading_123 ?_
              have hf_123 : f119 (ρ h0 0) = .inr (10, [.int o80_x0, .int o80_x1, .int o80_x2, .int o80_x3, .int o80_x4, .int o80_x5, .int o80_x6, .ref (ρ (ρ h0 0) 7), .ref (ρ (ρ h0 0) 8), .ref (ρ (ρ h0 0) 9), .ref (ρ (ρ h0 0) 10), .ref (ρ (ρ h0 0) 11), .ref (ρ (ρ h0 0) 12), .ref (ρ (ρ h0 0) 13), .ref (ρ (ρ h0 0) 14), .ref (ρ (ρ h0 0) 15), .ref (ρ (ρ h0 0) 16), .ref (ρ (ρ h0 0) 17), .ref (ρ (ρ h0 0) 18)]) := (hF120 _ (by rw [tp_iu y59]; decide)).trans hf_113
              refine tpk_pos (tp_in hG y59 (by decide)) hf_123 (fun q124 eq124 => ?_)
              refine va_getN (D := (dC, dI)) (ci := 10) (v := .ref (ρ (ρ h0 0) 16)) (C := RX10) (T := TX10) (N := 19) hx hb hts hfX10 hown hK hP q124 eq124 rfl 16 (by decide) (va_Nw.use rfl (hN.1 (.fieldLinkNest RX11 306 "ColdShips$World" "readings" "LColdShips$Rows;" "ColdShips") nzw_82)) (fun _ h9 => h9) rfl dX11_reading_126 ?_
              refine lv_iload hx hb dX11_reading_129 (lv_at hl 0 rfl) ?_
              refine lv_iconst (v := 2) hx hb dX11_reading_131 (by decide) ?_
              refine lv_iload_n hx hb dX11_reading_132 rfl (lv_at hl 4 rfl) ?_
              refine lv_i2l hx hb dX11_reading_133 rfl ?_
              have hf_125 : f119 (ρ (ρ h0 0) 16) = .inr (4, [.int o98_x0, .ref (ρ (ρ (ρ h0 0) 16) 1), .int o98_x2]) := (hF120 _ (by rw [tp_iu y77]; decide)).trans hf_115
              refine tpk_pos (tp_in hG y77 (by decide)) hf_125 (fun q126 eq126 => ?_)
              have hFc := tp_fr hD hS hA
              refine va_callv (va_runV (As := [.int r94, .int 2, .long a.toInt64]) (rest := []) ⟨hx, hb, hml, hown, hts⟩ (t_X4_set l dC dI _ Ω κ τ ν ρ L f119 hG hT (ρ (ρ h0 0) 16) r94 (2) a.toInt64 y77 o98_x0 o98_x2 hf_125) (cwV 3 hts gX11_reading_X4_set rfl rfl rfl ⟨rfl, pd_X4_set⟩ ⟨Nat.le_of_ble_eq_true rfl, Nat.le_of_ble_eq_true rfl⟩) ⟨pz_blind, va_recv hK hP (ci := 4) (q0 := q126) rfl eq126, pz_pre hP hK hD hN⟩ rfl rfl hl.1 rfl (lv_room (Nat.le_of_ble_eq_true rfl)) dX11_reading_134 ⟨Nat.le_of_ble_eq_true rfl, Nat.le_of_ble_eq_true rfl⟩) hS (fun q _ h => hFc q h) hFc (fun f129 t H1 locs ht hvm hw128 hB hz1 hk1 hS => ?_)
              refine tn_3 hw128 (fun hT hF130 hw128p => ?_); clear hw128
              have hR := hR.then hF130 (by decide)
              have hX := hX.fr hF130 (by decide)
              have hP := hB.1; rw [ht] at hP; have hD := tp_ad f129 hD; clear hB hFc hz1 hk1; subst ht; generalize t.heap = H at hP hS ⊢
              refine lv_aload_n hx hb dX11_reading_137 rfl (lv_at hl 1 rfl) ?_
              have hf_131 : f129 h0 = .inr (11, [.ref (ρ h0 0), .ref (ρ h0 1), .ref (ρ h0 2), .ref (ρ h0 3), .ref (ρ h0 4), .ref (ρ h0 5), .int o66_x6]) := (hF130 _ (by rw [ht_h0]; decide)).trans hf_121
              refine tpk_pos (tp_in hG ht_h0 (by decide)) hf_131 (fun q132 eq132 => ?_)
              refine va_get (D := (dC, dI)) (ci := 11) (v := .ref (ρ h0 0)) (C := RX11) (T := TX11) (N := 7) hx hb hts hfX11 hown hK hP q132 eq132 rfl 0 (by decide) (hts (.fieldLink RX11 10 "ColdShips" "world" "LColdShips$World;") wa_15) (fun _ h9 => h9) rfl dX11_reading_138 ?_
              have hf_133 : f129 (ρ h0 0) = .inr (10, [.int o80_x0, .int o80_x1, .int o80_x2, .int o80_x3, .int o80_x4, .int o80_x5, .int o80_x6, .ref (ρ (ρ h0 0) 7), .ref (ρ (ρ h0 0) 8), .ref (ρ (ρ h0 0) 9), .ref (ρ (ρ h0 0) 10), .ref (ρ (ρ h0 0) 11), .ref (ρ (ρ h0 0) 12), .ref (ρ (ρ h0 0) 13), .ref (ρ (ρ h0 0) 14), .ref (ρ (ρ h0 0) 15), .ref (ρ (ρ h0 0) 16), .ref (ρ (ρ h0 0) 17), .ref (ρ (ρ h0 0) 18)]) := (hF130 _ (by rw [tp_iu y59]; decide)).trans hf_123
              refine tpk_pos (tp_in hG y59 (by decide)) hf_133 (fun q134 eq134 => ?_)
              refine va_getN (D := (dC, dI)) (ci := 10) (v := .ref (ρ (ρ h0 0) 16)) (C := RX10) (T := TX10) (N := 19) hx hb hts hfX10 hown hK hP q134 eq134 rfl 16 (by decide) (va_Nw.use rfl (hN.1 (.fieldLinkNest RX11 306 "ColdShips$World" "readings" "LColdShips$Rows;" "ColdShips") nzw_82)) (fun _ h9 => h9) rfl dX11_reading_141 ?_
              refine lv_iload hx hb dX11_reading_144 (lv_at hl 0 rfl) ?_
              refine lv_iconst (v := 3) hx hb dX11_reading_146 (by decide) ?_
              refine lv_iload hx hb dX11_reading_147 (lv_at hl 5 rfl) ?_
              refine lv_i2l hx hb dX11_reading_149 rfl ?_
              have hf_135 : f129 (ρ (ρ h0 0) 16) = .inr (4, [.int o98_x0, .ref (ρ (ρ (ρ h0 0) 16) 1), .int o98_x2]) := (hF130 _ (by rw [tp_iu y77]; decide)).trans hf_125
              refine tpk_pos (tp_in hG y77 (by decide)) hf_135 (fun q136 eq136 => ?_)
              have hFc := tp_fr hD hS hA
              refine va_callv (va_runV (As := [.int r94, .int 3, .long b.toInt64]) (rest := []) ⟨hx, hb, hml, hown, hts⟩ (t_X4_set l dC dI _ Ω κ τ ν ρ L f129 hG hT (ρ (ρ h0 0) 16) r94 (3) b.toInt64 y77 o98_x0 o98_x2 hf_135) (cwV 3 hts gX11_reading_X4_set rfl rfl rfl ⟨rfl, pd_X4_set⟩ ⟨Nat.le_of_ble_eq_true rfl, Nat.le_of_ble_eq_true rfl⟩) ⟨pz_blind, va_recv hK hP (ci := 4) (q0 := q136) rfl eq136, pz_pre hP hK hD hN⟩ rfl rfl hl.1 rfl (lv_room (Nat.le_of_ble_eq_true rfl)) dX11_reading_150 ⟨Nat.le_of_ble_eq_true rfl, Nat.le_of_ble_eq_true rfl⟩) hS (fun q _ h => hFc q h) hFc (fun f139 t H1 locs ht hvm hw138 hB hz1 hk1 hS => ?_)
              refine tn_3 hw138 (fun hT hF140 hw138p => ?_); clear hw138
              have hR := hR.then hF140 (by decide)
              have hX := hX.fr hF140 (by decide)
              have hP := hB.1; rw [ht] at hP; have hD := tp_ad f139 hD; clear hB hFc hz1 hk1; subst ht; generalize t.heap = H at hP hS ⊢
              refine lv_aload_n hx hb dX11_reading_153 rfl (lv_at hl 1 rfl) ?_
              have hf_141 : f139 h0 = .inr (11, [.ref (ρ h0 0), .ref (ρ h0 1), .ref (ρ h0 2), .ref (ρ h0 3), .ref (ρ h0 4), .ref (ρ h0 5), .int o66_x6]) := (hF140 _ (by rw [ht_h0]; decide)).trans hf_131
              refine tpk_pos (tp_in hG ht_h0 (by decide)) hf_141 (fun q142 eq142 => ?_)
              refine va_get (D := (dC, dI)) (ci := 11) (v := .ref (ρ h0 0)) (C := RX11) (T := TX11) (N := 7) hx hb hts hfX11 hown hK hP q142 eq142 rfl 0 (by decide) (hts (.fieldLink RX11 10 "ColdShips" "world" "LColdShips$World;") wa_15) (fun _ h9 => h9) rfl dX11_reading_154 ?_
              have hf_143 : f139 (ρ h0 0) = .inr (10, [.int o80_x0, .int o80_x1, .int o80_x2, .int o80_x3, .int o80_x4, .int o80_x5, .int o80_x6, .ref (ρ (ρ h0 0) 7), .ref (ρ (ρ h0 0) 8), .ref (ρ (ρ h0 0) 9), .ref (ρ (ρ h0 0) 10), .ref (ρ (ρ h0 0) 11), .ref (ρ (ρ h0 0) 12), .ref (ρ (ρ h0 0) 13), .ref (ρ (ρ h0 0) 14), .ref (ρ (ρ h0 0) 15), .ref (ρ (ρ h0 0) 16), .ref (ρ (ρ h0 0) 17), .ref (ρ (ρ h0 0) 18)]) := (hF140 _ (by rw [tp_iu y59]; decide)).trans hf_133
              refine tpk_pos (tp_in hG y59 (by decide)) hf_143 (fun q144 eq144 => ?_)
              refine va_getN (D := (dC, dI)) (ci := 10) (v := .ref (ρ (ρ h0 0) 16)) (C := RX10) (T := TX10) (N := 19) hx hb hts hfX10 hown hK hP q144 eq144 rfl 16 (by decide) (va_Nw.use rfl (hN.1 (.fieldLinkNest RX11 306 "ColdShips$World" "readings" "LColdShips$Rows;" "ColdShips") nzw_82)) (fun _ h9 => h9) rfl dX11_reading_157 ?_
              refine lv_iload hx hb dX11_reading_160 (lv_at hl 0 rfl) ?_
              refine lv_iconst (v := 4) hx hb dX11_reading_162 (by decide) ?_
              refine lv_iload hx hb dX11_reading_163 (lv_at hl 6 rfl) ?_
              refine lv_i2l hx hb dX11_reading_165 rfl ?_
              have hf_145 : f139 (ρ (ρ h0 0) 16) = .inr (4, [.int o98_x0, .ref (ρ (ρ (ρ h0 0) 16) 1), .int o98_x2]) := (hF140 _ (by rw [tp_iu y77]; decide)).trans hf_135
              refine tpk_pos (tp_in hG y77 (by decide)) hf_145 (fun q146 eq146 => ?_)
              have hFc := tp_fr hD hS hA
              refine va_callv (va_runV (As := [.int r94, .int 4, .long a5.toInt64]) (rest := []) ⟨hx, hb, hml, hown, hts⟩ (t_X4_set l dC dI _ Ω κ τ ν ρ L f139 hG hT (ρ (ρ h0 0) 16) r94 (4) a5.toInt64 y77 o98_x0 o98_x2 hf_145) (cwV 3 hts gX11_reading_X4_set rfl rfl rfl ⟨rfl, pd_X4_set⟩ ⟨Nat.le_of_ble_eq_true rfl, Nat.le_of_ble_eq_true rfl⟩) ⟨pz_blind, va_recv hK hP (ci := 4) (q0 := q146) rfl eq146, pz_pre hP hK hD hN⟩ rfl rfl hl.1 rfl (lv_room (Nat.le_of_ble_eq_true rfl)) dX11_reading_166 ⟨Nat.le_of_ble_eq_true rfl, Nat.le_of_ble_eq_true rfl⟩) hS (fun q _ h => hFc q h) hFc (fun f149 t H1 locs ht hvm hw148 hB hz1 hk1 hS => ?_)
              refine tn_3 hw148 (fun hT hF150 hw148p => ?_); clear hw148
              have hR := hR.then hF150 (by decide)
              have hX := hX.fr hF150 (by decide)
              have hP := hB.1; rw [ht] at hP; have hD := tp_ad f149 hD; clear hB hFc hz1 hk1; subst ht; generalize t.heap = H at hP hS ⊢
              refine lv_aload_n hx hb dX11_reading_169 rfl (lv_at hl 1 rfl) ?_
              refine lv_aload_n hx hb dX11_reading_170 rfl (lv_at hl 1 rfl) ?_
              have hf_151 : f149 h0 = .inr (11, [.ref (ρ h0 0), .ref (ρ h0 1), .ref (ρ h0 2), .ref (ρ h0 3), .ref (ρ h0 4), .ref (ρ h0 5), .int o66_x6]) := (hF150 _ (by rw [ht_h0]; decide)).trans hf_141
              refine tpk_pos (tp_in hG ht_h0 (by decide)) hf_151 (fun q152 eq152 => ?_)
              refine va_get (D := (dC, dI)) (ci := 11) (v := .ref (ρ h0 0)) (C := RX11) (T := TX11) (N := 7) hx hb hts hfX11 hown hK hP q152 eq152 rfl 0 (by decide) (hts (.fieldLink RX11 10 "ColdShips" "world" "LColdShips$World;") wa_15) (fun _ h9 => h9) rfl dX11_reading_171 ?_
              have hf_153 : f149 (ρ h0 0) = .inr (10, [.int o80_x0, .int o80_x1, .int o80_x2, .int o80_x3, .int o80_x4, .int o80_x5, .int o80_x6, .ref (ρ (ρ h0 0) 7), .ref (ρ (ρ h0 0) 8), .ref (ρ (ρ h0 0) 9), .ref (ρ (ρ h0 0) 10), .ref (ρ (ρ h0 0) 11), .ref (ρ (ρ h0 0) 12), .ref (ρ (ρ h0 0) 13), .ref (ρ (ρ h0 0) 14), .ref (ρ (ρ h0 0) 15), .ref (ρ (ρ h0 0) 16), .ref (ρ (ρ h0 0) 17), .ref (ρ (ρ h0 0) 18)]) := (hF150 _ (by rw [tp_iu y59]; decide)).trans hf_143
              refine tpk_pos (tp_in hG y59 (by decide)) hf_153 (fun q154 eq154 => ?_)
              refine va_getN (D := (dC, dI)) (ci := 10) (v := .ref (ρ (ρ h0 0) 16)) (C := RX10) (T := TX10) (N := 19) hx hb hts hfX10 hown hK hP q154 eq154 rfl 16 (by decide) (va_Nw.use rfl (hN.1 (.fieldLinkNest RX11 306 "ColdShips$World" "readings" "LColdShips$Rows;" "ColdShips") nzw_82)) (fun _ h9 => h9) rfl dX11_reading_174 ?_
              have hf_155 : f149 (ρ (ρ h0 0) 16) = .inr (4, [.int o98_x0, .ref (ρ (ρ (ρ h0 0) 16) 1), .int o98_x2]) := (hF150 _ (by rw [tp_iu y77]; decide)).trans hf_145
              refine tpk_pos (tp_in hG y77 (by decide)) hf_155 (fun q156 eq156 => ?_)
              refine va_getN (D := (dC, dI)) (ci := 4) (v := .int o98_x2) (C := RX4) (T := TX4) (N := 3) hx hb hts hfX4 hown hK hP q156 eq156 rfl 2 (by decide) (va_Nw.use rfl (hN.1 (.fieldLinkNest RX11 242 "ColdShips$Rows" "size" "I" "ColdShips") nzw_4)) (fun _ h9 => h9) rfl dX11_reading_177 ?_
              have hFc := tp_fr hD hS hA
              refine va_calli (va_runV (As := [.int o98_x2]) (rest := []) ⟨hx, hb, hml, hown, hts⟩ (t_X11_accept l dC dI _ Ω κ τ ν ρ L f149 hG hT h0 o98_x2 ht_h0) (cwV 1 hts gX11_reading_X11_accept rfl rfl rfl ⟨rfl, pd_X11_accept⟩ ⟨Nat.le_of_ble_eq_true rfl, Nat.le_of_ble_eq_true rfl⟩) ⟨pz_blind, va_recv hK hP (ci := 11) (q0 := q152) rfl eq152, pz_pre hP hK hD hN⟩ rfl rfl hl.1 rfl (lv_room (Nat.le_of_ble_eq_true rfl)) dX11_reading_180 ⟨Nat.le_of_ble_eq_true rfl, Nat.le_of_ble_eq_true rfl⟩) hS (fun q _ h => hFc q h) hFc (fun r157 f159 t H1 locs ht hvm hw158 hB hz1 hk1 hS => ?_)
              refine tn_4 hw158 (fun hT hF160 hw158r hw158p => ?_); clear hw158
              have hR := hR.then hF160 (by decide)
              have hX := hX.fr hF160 (by decide)
              have hP := hB.1; rw [ht] at hP; have hD := tp_ad f159 hD; clear hB hFc hz1 hk1; subst ht; generalize t.heap = H at hP hS ⊢
              have hw158pq : r157.toInt = o98_x2.toInt := by rw [hw158p]
              exact W.iret (v := r157) hx hb hr (fun t ht hW => ⟨⟨r157, f159, rfl, ⟨hT, hR, trivial, hX⟩, by rw [ht]; exact hP, va_K.moved hW.alike hK, hD⟩, hS.F ht⟩) hS.2.2 dX11_reading_183
            · have ic101 : r94.toInt = (-1) := zi_nef rfl rfl c101
              refine lv_aload_n hx hb dX11_reading_85 rfl (lv_at hl 1 rfl) ?_
              refine lv_bipush (v := (-5)) hx hb dX11_reading_86 (by decide) ?_
              have hf_161 : f96 h0 = .inr (11, [.ref (ρ h0 0), .ref (ρ h0 1), .ref (ρ h0 2), .ref (ρ h0 3), .ref (ρ h0 4), .ref (ρ h0 5), .int o66_x6]) := (hF97 _ (by rw [ht_h0]; decide)).trans hf_o66
              refine tpk_pos (tp_in hG ht_h0 (by decide)) hf_161 (fun q162 eq162 => ?_)
              have hFc := tp_fr hD hS hA
              refine va_calli (va_runV (As := [.int (-5)]) (rest := []) ⟨hx, hb, hml, hown, hts⟩ (t_X11_refuse l dC dI _ Ω κ τ ν ρ L f96 hG hT h0 ((-5)) ht_h0) (cwV 1 hts gX11_reading_X11_refuse rfl rfl rfl ⟨rfl, pd_X11_refuse⟩ ⟨Nat.le_of_ble_eq_true rfl, Nat.le_of_ble_eq_true rfl⟩) ⟨pz_blind, va_recv hK hP (ci := 11) (q0 := q162) rfl eq162, pz_pre hP hK hD hN⟩ rfl rfl hl.1 rfl (lv_room (Nat.le_of_ble_eq_true rfl)) dX11_reading_88 ⟨Nat.le_of_ble_eq_true rfl, Nat.le_of_ble_eq_true rfl⟩) hS (fun q _ h => hFc q h) hFc (fun r163 f165 t H1 locs ht hvm hw164 hB hz1 hk1 hS => ?_)
              refine tn_4 hw164 (fun hT hF166 hw164r hw164p => ?_); clear hw164
              have hR := hR.then hF166 (by decide)
              have hX := hX.fr hF166 (by decide)
              have hP := hB.1; rw [ht] at hP; have hD := tp_ad f165 hD; clear hB hFc hz1 hk1; subst ht; generalize t.heap = H at hP hS ⊢
              have hw164pq : r163.toInt = (-5) := by rw [hw164p]; rfl
              exact W.iret (v := r163) hx hb hr (fun t ht hW => ⟨⟨r163, f165, rfl, ⟨hT, hR, trivial, hX⟩, by rw [ht]; exact hP, va_K.moved hW.alike hK, hD⟩, hS.F ht⟩) hS.2.2 dX11_reading_91
          · have ic88 : r86.toInt = 0 := zi_nef rfl rfl c88
            have p167 : ¬ (0 ≤ v.toInt ∧ v.toInt < o84_x2.toInt) := (tp_cond.no hw87p) (by omega)
            clear hw87r ic88
            refine lv_aload_n hx hb dX11_reading_60 rfl (lv_at hl 0 rfl) ?_
            refine lv_bipush (v := (-2)) hx hb dX11_reading_61 (by decide) ?_
            have hFc := tp_fr hD hS hA
            refine va_calli (va_runV (As := [.int (-2)]) (rest := []) ⟨hx, hb, hml, hown, hts⟩ (t_X11_refuse l dC dI _ Ω κ τ ν ρ L f hG hT h0 ((-2)) ht_h0) (cwV 1 hts gX11_reading_X11_refuse rfl rfl rfl ⟨rfl, pd_X11_refuse⟩ ⟨Nat.le_of_ble_eq_true rfl, Nat.le_of_ble_eq_true rfl⟩) ⟨pz_blind, va_recv hK hP (ci := 11) (q0 := q67) rfl eq67, pz_pre hP hK hD hN⟩ rfl rfl hl.1 rfl (lv_room (Nat.le_of_ble_eq_true rfl)) dX11_reading_63 ⟨Nat.le_of_ble_eq_true rfl, Nat.le_of_ble_eq_true rfl⟩) hS (fun q _ h => hFc q h) hFc (fun r168 f170 t H1 locs ht hvm hw169 hB hz1 hk1 hS => ?_)
            refine tn_4 hw169 (fun hT hF171 hw169r hw169p => ?_); clear hw169
            have hR := hR.then hF171 (by decide)
            have hX := hX.fr hF171 (by decide)
            have hP := hB.1; rw [ht] at hP; have hD := tp_ad f170 hD; clear hB hFc hz1 hk1; subst ht; generalize t.heap = H at hP hS ⊢
            have hw169pq : r168.toInt = (-2) := by rw [hw169p]; rfl
            exact W.iret (v := r168) hx hb hr (fun t ht hW => ⟨⟨r168, f170, rfl, ⟨hT, hR, trivial, hX⟩, by rw [ht]; exact hP, va_K.moved hW.alike hK, hD⟩, hS.F ht⟩) hS.2.2 dX11_reading_66
        · have ic57 : r55.toInt = 0 := zi_nef rfl rfl c57
          have p172 : ¬ (0 ≤ (a5.toInt) ∧ (a5.toInt) ≤ 2399) := (tp_cond.no hw56p) (by omega)
          clear hw56r ic57
          refine lv_aload_n hx hb dX11_reading_40 rfl (lv_at hl 0 rfl) ?_
          refine lv_iconst (v := (-1)) hx hb dX11_reading_41 (by decide) ?_
          refine tgk_12 hG ht_h0 (fun y173 y173l y174 y175 y176 y177 y178 y179a y179b y179c => ?_)
          refine tpk_12 hT ht_h0 (fun o180_x6 hf_o180 => ?_)
          refine tpk_pos (tp_in hG ht_h0 (by decide)) hf_o180 (fun q181 eq181 => ?_)
          have hFc := tp_fr hD hS hA
          refine va_calli (va_runV (As := [.int (-1)]) (rest := []) ⟨hx, hb, hml, hown, hts⟩ (t_X11_refuse l dC dI _ Ω κ τ ν ρ L f hG hT h0 ((-1)) ht_h0) (cwV 1 hts gX11_reading_X11_refuse rfl rfl rfl ⟨rfl, pd_X11_refuse⟩ ⟨Nat.le_of_ble_eq_true rfl, Nat.le_of_ble_eq_true rfl⟩) ⟨pz_blind, va_recv hK hP (ci := 11) (q0 := q181) rfl eq181, pz_pre hP hK hD hN⟩ rfl rfl hl.1 rfl (lv_room (Nat.le_of_ble_eq_true rfl)) dX11_reading_42 ⟨Nat.le_of_ble_eq_true rfl, Nat.le_of_ble_eq_true rfl⟩) hS (fun q _ h => hFc q h) hFc (fun r182 f184 t H1 locs ht hvm hw183 hB hz1 hk1 hS => ?_)
          refine tn_4 hw183 (fun hT hF185 hw183r hw183p => ?_); clear hw183
          have hR := hR.then hF185 (by decide)
          have hX := hX.fr hF185 (by decide)
          have hP := hB.1; rw [ht] at hP; have hD := tp_ad f184 hD; clear hB hFc hz1 hk1; subst ht; generalize t.heap = H at hP hS ⊢
          have hw183pq : r182.toInt = (-1) := by rw [hw183p]; rfl
          exact W.iret (v := r182) hx hb hr (fun t ht hW => ⟨⟨r182, f184, rfl, ⟨hT, hR, trivial, hX⟩, by rw [ht]; exact hP, va_K.moved hW.alike hK, hD⟩, hS.F ht⟩) hS.2.2 dX11_reading_45
set_option maxHeartbeats 4000000 in
set_option maxRecDepth 100000 in
theorem t_X11_gauged (l : Launch) (dC : Nat → ClassId) (dI : Nat → Nat → Nat) (sz : Nat) (Ω : Nat → Nat → (Nat → Nat) → va_E → Prop) (κ : Nat → ClassId) (τ ν : Nat → Nat) (ρ : Nat → Nat → Nat) (L : List Nat) (f : Nat → va_E) (hG : tp_G τ ν ρ L) (hT : tp_T Ω κ τ ν ρ f) (h0 : Nat) (v : Int32) (u : Int32) (a : Int32) (ht_h0 : τ h0 = 12) : Met l yX11_gauged wqX11_gauged ({ frames := 7, cells := 0, slots := 0, locals := 2400 }) (va_Pc [.ref h0, .int v, .int u, .int a] (pz_B dC dI (tp_K κ) (va_pl L f) sz)) (va_Ql (fun (r : Int64) (f1 : Nat → va_E) => tp_T Ω κ τ ν ρ f1 ∧ tp_F τ [] f f1 ∧ True ∧ True) (fun (f1 : Nat → va_E) (t : State) => pz_E dC dI (tp_K κ) (va_A (va_pl L f) sz) (va_pl L f1) t) (va_A (va_pl L f) sz)) 0 0 (va_A (va_pl L f) sz) := by
  refine Met.ofW (cc := cX11_gauged) (maxL := 4) (ret := some .long) (by decide) rfl ?_
  intro p e s m args below meth c s₁ B hml hv
  obtain ⟨rfl, hsz, hP, hK, hD0, hN⟩ := hv
  have hx := B.exec
  have hb := B.bytes
  have hr := B.returns
  have hts := fun (w : Cond) (h : w ∈ WALL) => atoms_spec (ws := wqX11_gauged) B.pre w (List.mem_cons_of_mem _ h)
  have hown : s.vm.findClass RX11 = some m.cls := findClass_of_methodNamed B.named
  have hlocks := B.notSynchronized
  subst hsz
  have hD := hD0.self (sz := s.heap.size)
  generalize hAe : va_A (va_pl L f) s.heap.size = A at hD ⊢
  have hA : ∀ q : Nat, s.heap.size ≤ q → A q := fun q h => by rw [← hAe]; exact Or.inr h
  have hS : va_S A s.heap s.heap [] := va_S.rf
  have hR : tp_F τ [] f f := tp_F.rf
  have hl := lv_entry ([.ref h0, .int v, .int u, .int a]) (n := 4) (Nat.le_of_ble_eq_true rfl)
  rw [lg_entry_eq]
  generalize (lg_sl ([.ref h0, .int v, .int u, .int a]) ++ List.replicate (4 - (lg_sl ([.ref h0, .int v, .int u, .int a])).length) Slot.unset).toArray = ls at hl ⊢
  have hl : lv_has ls 4 [(0, .ref h0), (1, .int v), (2, .int u), (3, .int a)] := hl
  refine lv_aload_n hx hb dX11_gauged_0 rfl (lv_at hl 0 rfl) ?_
  refine tgk_12 hG ht_h0 (fun y1 y1l y2 y3 y4 y5 y6 y7a y7b y7c => ?_)
  refine tpk_12 hT ht_h0 (fun o8_x6 hf_o8 => ?_)
  refine tpk_pos (tp_in hG ht_h0 (by decide)) hf_o8 (fun q9 eq9 => ?_)
  refine va_get (D := (dC, dI)) (ci := 11) (v := .ref (ρ h0 0)) (C := RX11) (T := TX11) (N := 7) hx hb hts hfX11 hown hK hP q9 eq9 rfl 0 (by decide) (hts (.fieldLink RX11 10 "ColdShips" "world" "LColdShips$World;") wa_15) (fun _ h9 => h9) rfl dX11_gauged_1 ?_
  refine tgk_11 hG y1 (fun y10 y10n y11 y11n y12 y13 y14 y15 y15m y15l y16 y16m y16l y17 y17m y17l y18 y18w y18m y18l y19 y19w y19m y19l y20 y20w y20m y20l y21 y21w y21m y21l => ?_)
  refine tpk_11 hT y1 (fun o22_x0 o22_x1 o22_x2 o22_x3 o22_x4 o22_x5 o22_x6 hf_o22 ro22_0 ro22_1 ro22_2 ro22_3 => ?_)
  refine tpk_pos (tp_in hG y1 (by decide)) hf_o22 (fun q23 eq23 => ?_)
  refine va_getN (D := (dC, dI)) (ci := 10) (v := .ref (ρ (ρ h0 0) 17)) (C := RX10) (T := TX10) (N := 19) hx hb hts hfX10 hown hK hP q23 eq23 rfl 17 (by decide) (va_Nw.use rfl (hN.1 (.fieldLinkNest RX11 207 "ColdShips$World" "landings" "LColdShips$Rows;" "ColdShips") nzw_85)) (fun _ h9 => h9) rfl dX11_gauged_4 ?_
  refine lv_iload_n hx hb dX11_gauged_7 rfl (lv_at hl 1 rfl) ?_
  refine tgk_5 hG y20 (fun y24 y24n y25a y25b y25c => ?_)
  refine tpk_5 hT y20 (fun o26_x0 o26_x2 hf_o26 ro26_0 ro26_1 => ?_)
  refine tpk_pos (tp_in hG y20 (by decide)) hf_o26 (fun q27 eq27 => ?_)
  have ro26_0 := tp_hu ro26_0; have ro26_1 := tp_hu ro26_1
  refine pz_calli (va_runV (As := [.int v]) (rest := []) ⟨hx, hb, hml, hown, hts⟩ (t_X4_has l dC dI _ Ω κ τ ν ρ L f hG hT (ρ (ρ h0 0) 17) v y20 o26_x0 o26_x2 hf_o26) (cwV 1 hts gX11_gauged_X4_has rfl rfl rfl ⟨rfl, pd_X4_has⟩ ⟨Nat.le_of_ble_eq_true rfl, Nat.le_of_ble_eq_true rfl⟩) ⟨pz_blind, va_recv hK hP (ci := 4) (q0 := q27) rfl eq27, pz_pre hP hK hD hN⟩ rfl rfl hl.1 rfl (lv_room (Nat.le_of_ble_eq_true rfl)) dX11_gauged_8 ⟨Nat.le_of_ble_eq_true rfl, Nat.le_of_ble_eq_true rfl⟩) (fun r28 hw29 => ?_)
  obtain ⟨hw29r, hw29p⟩ := hw29
  refine lv_if_eq (tgt := 21) hx hb dX11_gauged_11 (by decide) (fun c30 => ?_) (fun c30 => ?_)
  · have ic30 : r28.toInt = 0 := zi_eq rfl rfl c30
    clear hw29r ic30
    refine lv_ldc2 (own := RX11) (v := (-2000000000000000)) hx hb hown (hts (.constantLong RX11 281 (-2000000000000000)) wa_1124) dX11_gauged_21 ?_
    exact W.lret (v := (-2000000000000000)) hx hb hr (fun t ht hW => ⟨⟨(-2000000000000000), f, rfl, ⟨hT, hR, trivial, trivial⟩, by rw [ht]; exact hP, va_K.moved hW.alike hK, hD⟩, hS.F ht⟩) hS.2.2 dX11_gauged_24
  · have ic30 : r28.toInt ≠ 0 := zi_eqf rfl rfl c30
    have p31 : 0 ≤ v.toInt ∧ v.toInt < o26_x2.toInt := (tp_cond.yes hw29p) (by omega)
    clear hw29r ic30
    refine lv_iload_n hx hb dX11_gauged_14 rfl (lv_at hl 2 rfl) ?_
    refine pz_calli (va_runS (As := [.int u]) (rest := []) ⟨hx, hb, hml, hown, hts⟩ (t_X11_isHour l dC dI _ u (u.toInt) rfl) (va_cwS 1 hts gX11_gauged_X11_isHour rfl rfl rfl pd_X11_isHour ⟨Nat.le_of_ble_eq_true rfl, Nat.le_of_ble_eq_true rfl⟩) ⟨pz_blind, pz_pre pz_P0 (hK.sub (tys' := []) [] rfl) (pz_D0 (A := fun _ => True)) hN⟩ rfl rfl hl.1 rfl (lv_room (Nat.le_of_ble_eq_true rfl)) dX11_gauged_15 ⟨Nat.le_of_ble_eq_true rfl, Nat.le_of_ble_eq_true rfl⟩) (fun r32 hw33 => ?_)
    obtain ⟨hw33r, hw33p⟩ := hw33
    refine lv_if_ne (tgt := 25) hx hb dX11_gauged_18 (by decide) (fun c34 => ?_) (fun c34 => ?_)
    · have ic34 : r32.toInt ≠ 0 := zi_ne rfl rfl c34
      have p35 : 0 ≤ (u.toInt) ∧ (u.toInt) ≤ 2399 := (tp_cond.yes hw33p) (by omega)
      clear hw33r ic34
      refine lv_iload_n hx hb dX11_gauged_25 rfl (lv_at hl 3 rfl) ?_
      rcases zi_sw a 0 3 with h36 | h36
      · refine lv_tableOut (tgt := 98) hx hb dX11_gauged_26 h36 (by decide) ?_
        refine lv_ldc2 (own := RX11) (v := (-2000000000000000)) hx hb hown (hts (.constantLong RX11 281 (-2000000000000000)) wa_1124) dX11_gauged_98 ?_
        exact W.lret (v := (-2000000000000000)) hx hb hr (fun t ht hW => ⟨⟨(-2000000000000000), f, rfl, ⟨hT, hR, trivial, trivial⟩, by rw [ht]; exact hP, va_K.moved hW.alike hK, hD⟩, hS.F ht⟩) hS.2.2 dX11_gauged_101
      · rcases (show a.toInt = 0 ∨ a.toInt = 1 ∨ a.toInt = 2 ∨ a.toInt = 3 by omega) with h36k | h36k | h36k | h36k
        · refine lv_tableIn (tgt := 56) hx hb dX11_gauged_26 (by omega) (by omega) (by rw [h36k]; rfl) (by decide) ?_
          refine lv_aload_n hx hb dX11_gauged_56 rfl (lv_at hl 0 rfl) ?_
          refine va_get (D := (dC, dI)) (ci := 11) (v := .ref (ρ h0 4)) (C := RX11) (T := TX11) (N := 7) hx hb hts hfX11 hown hK hP q9 eq9 rfl 4 (by decide) (hts (.fieldLink RX11 39 "ColdShips" "reckoner" "LColdShips$Reckoner;") wa_28) (fun _ h9 => h9) rfl dX11_gauged_57 ?_
          refine lv_iload_n hx hb dX11_gauged_60 rfl (lv_at hl 1 rfl) ?_
          refine lv_iconst (v := 0) hx hb dX11_gauged_61 (by decide) ?_
          refine lv_iload_n hx hb dX11_gauged_62 rfl (lv_at hl 2 rfl) ?_
          refine tgk_4 hG y5 (fun y37 y37l y38 y38n y39 y39n => ?_)
          refine tpk_4 hT y5 (fun o40_x3 o40_x4 o40_x5 hf_o40 ro40_0 => ?_)
          refine tpk_pos (tp_in hG y5 (by decide)) hf_o40 (fun q41 eq41 => ?_)
          refine pz_calll (va_runV (As := [.int v, .int 0, .int u]) (rest := []) ⟨hx, hb, hml, hown, hts⟩ (t_X3_tonsRead l dC dI _ Ω κ τ ν ρ L f hG hT (ρ h0 4) v (0) u y5) (cwV 3 hts gX11_gauged_X3_tonsRead rfl rfl rfl ⟨rfl, pd_X3_tonsRead⟩ ⟨Nat.le_of_ble_eq_true rfl, Nat.le_of_ble_eq_true rfl⟩) ⟨pz_blind, va_recv hK hP (ci := 3) (q0 := q41) rfl eq41, pz_pre hP hK hD hN⟩ rfl rfl hl.1 rfl (lv_room (Nat.le_of_ble_eq_true rfl)) dX11_gauged_63 ⟨Nat.le_of_ble_eq_true rfl, Nat.le_of_ble_eq_true rfl⟩) (fun r42 hw43 => ?_)
          obtain ⟨hw43r, hw43p⟩ := hw43
          exact W.lret (v := r42) hx hb hr (fun t ht hW => ⟨⟨r42, f, rfl, ⟨hT, hR, trivial, trivial⟩, by rw [ht]; exact hP, va_K.moved hW.alike hK, hD⟩, hS.F ht⟩) hS.2.2 dX11_gauged_66
        · refine lv_tableIn (tgt := 67) hx hb dX11_gauged_26 (by omega) (by omega) (by rw [h36k]; rfl) (by decide) ?_
          refine lv_aload_n hx hb dX11_gauged_67 rfl (lv_at hl 0 rfl) ?_
          refine va_get (D := (dC, dI)) (ci := 11) (v := .ref (ρ h0 4)) (C := RX11) (T := TX11) (N := 7) hx hb hts hfX11 hown hK hP q9 eq9 rfl 4 (by decide) (hts (.fieldLink RX11 39 "ColdShips" "reckoner" "LColdShips$Reckoner;") wa_28) (fun _ h9 => h9) rfl dX11_gauged_68 ?_
          refine lv_iload_n hx hb dX11_gauged_71 rfl (lv_at hl 1 rfl) ?_
          refine lv_iconst (v := 1) hx hb dX11_gauged_72 (by decide) ?_
          refine lv_iload_n hx hb dX11_gauged_73 rfl (lv_at hl 2 rfl) ?_
          refine tgk_4 hG y5 (fun y44 y44l y45 y45n y46 y46n => ?_)
          refine tpk_4 hT y5 (fun o47_x3 o47_x4 o47_x5 hf_o47 ro47_0 => ?_)
          refine tpk_pos (tp_in hG y5 (by decide)) hf_o47 (fun q48 eq48 => ?_)
          refine pz_calll (va_runV (As := [.int v, .int 1, .int u]) (rest := []) ⟨hx, hb, hml, hown, hts⟩ (t_X3_tonsRead l dC dI _ Ω κ τ ν ρ L f hG hT (ρ h0 4) v (1) u y5) (cwV 3 hts gX11_gauged_X3_tonsRead rfl rfl rfl ⟨rfl, pd_X3_tonsRead⟩ ⟨Nat.le_of_ble_eq_true rfl, Nat.le_of_ble_eq_true rfl⟩) ⟨pz_blind, va_recv hK hP (ci := 3) (q0 := q48) rfl eq48, pz_pre hP hK hD hN⟩ rfl rfl hl.1 rfl (lv_room (Nat.le_of_ble_eq_true rfl)) dX11_gauged_74 ⟨Nat.le_of_ble_eq_true rfl, Nat.le_of_ble_eq_true rfl⟩) (fun r49 hw50 => ?_)
          obtain ⟨hw50r, hw50p⟩ := hw50
          exact W.lret (v := r49) hx hb hr (fun t ht hW => ⟨⟨r49, f, rfl, ⟨hT, hR, trivial, trivial⟩, by rw [ht]; exact hP, va_K.moved hW.alike hK, hD⟩, hS.F ht⟩) hS.2.2 dX11_gauged_77
        · refine lv_tableIn (tgt := 78) hx hb dX11_gauged_26 (by omega) (by omega) (by rw [h36k]; rfl) (by decide) ?_
          refine lv_aload_n hx hb dX11_gauged_78 rfl (lv_at hl 0 rfl) ?_
          refine va_get (D := (dC, dI)) (ci := 11) (v := .ref (ρ h0 4)) (C := RX11) (T := TX11) (N := 7) hx hb hts hfX11 hown hK hP q9 eq9 rfl 4 (by decide) (hts (.fieldLink RX11 39 "ColdShips" "reckoner" "LColdShips$Reckoner;") wa_28) (fun _ h9 => h9) rfl dX11_gauged_79 ?_
          refine lv_iload_n hx hb dX11_gauged_82 rfl (lv_at hl 1 rfl) ?_
          refine lv_iload_n hx hb dX11_gauged_83 rfl (lv_at hl 2 rfl) ?_
          refine tgk_4 hG y5 (fun y51 y51l y52 y52n y53 y53n => ?_)
          refine tpk_4 hT y5 (fun o54_x3 o54_x4 o54_x5 hf_o54 ro54_0 => ?_)
          refine tpk_pos (tp_in hG y5 (by decide)) hf_o54 (fun q55 eq55 => ?_)
          refine pz_calll (va_runV (As := [.int v, .int u]) (rest := []) ⟨hx, hb, hml, hown, hts⟩ (t_X3_tonsGauged l dC dI _ Ω κ τ ν ρ L f hG hT (ρ h0 4) v u y5) (cwV 2 hts gX11_gauged_X3_tonsGauged rfl rfl rfl ⟨rfl, pd_X3_tonsGauged⟩ ⟨Nat.le_of_ble_eq_true rfl, Nat.le_of_ble_eq_true rfl⟩) ⟨pz_blind, va_recv hK hP (ci := 3) (q0 := q55) rfl eq55, pz_pre hP hK hD hN⟩ rfl rfl hl.1 rfl (lv_room (Nat.le_of_ble_eq_true rfl)) dX11_gauged_84 ⟨Nat.le_of_ble_eq_true rfl, Nat.le_of_ble_eq_true rfl⟩) (fun r56 hw57 => ?_)
          obtain ⟨hw57r, hw57p⟩ := hw57
          exact W.lret (v := r56) hx hb hr (fun t ht hW => ⟨⟨r56, f, rfl, ⟨hT, hR, trivial, trivial⟩, by rw [ht]; exact hP, va_K.moved hW.alike hK, hD⟩, hS.F ht⟩) hS.2.2 dX11_gauged_87
        · refine lv_tableIn (tgt := 88) hx hb dX11_gauged_26 (by omega) (by omega) (by rw [h36k]; rfl) (by decide) ?_
          refine lv_aload_n hx hb dX11_gauged_88 rfl (lv_at hl 0 rfl) ?_
          refine va_get (D := (dC, dI)) (ci := 11) (v := .ref (ρ h0 4)) (C := RX11) (T := TX11) (N := 7) hx hb hts hfX11 hown hK hP q9 eq9 rfl 4 (by decide) (hts (.fieldLink RX11 39 "ColdShips" "reckoner" "LColdShips$Reckoner;") wa_28) (fun _ h9 => h9) rfl dX11_gauged_89 ?_
          refine lv_iload_n hx hb dX11_gauged_92 rfl (lv_at hl 1 rfl) ?_
          refine lv_iload_n hx hb dX11_gauged_93 rfl (lv_at hl 2 rfl) ?_
          refine tgk_4 hG y5 (fun y58 y58l y59 y59n y60 y60n => ?_)
          refine tpk_4 hT y5 (fun o61_x3 o61_x4 o61_x5 hf_o61 ro61_0 => ?_)
          refine tpk_pos (tp_in hG y5 (by decide)) hf_o61 (fun q62 eq62 => ?_)
          refine pz_calll (va_runV (As := [.int v, .int u]) (rest := []) ⟨hx, hb, hml, hown, hts⟩ (t_X3_claimOf l dC dI _ Ω κ τ ν ρ L f hG hT (ρ h0 4) v u y5) (cwV 2 hts gX11_gauged_X3_claimOf rfl rfl rfl ⟨rfl, pd_X3_claimOf⟩ ⟨Nat.le_of_ble_eq_true rfl, Nat.le_of_ble_eq_true rfl⟩) ⟨pz_blind, va_recv hK hP (ci := 3) (q0 := q62) rfl eq62, pz_pre hP hK hD hN⟩ rfl rfl hl.1 rfl (lv_room (Nat.le_of_ble_eq_true rfl)) dX11_gauged_94 ⟨Nat.le_of_ble_eq_true rfl, Nat.le_of_ble_eq_true rfl⟩) (fun r63 hw64 => ?_)
          obtain ⟨hw64r, hw64p⟩ := hw64
          exact W.lret (v := r63) hx hb hr (fun t ht hW => ⟨⟨r63, f, rfl, ⟨hT, hR, trivial, trivial⟩, by rw [ht]; exact hP, va_K.moved hW.alike hK, hD⟩, hS.F ht⟩) hS.2.2 dX11_gauged_97
    · have ic34 : r32.toInt = 0 := zi_nef rfl rfl c34
      clear hw33r ic34
      refine lv_ldc2 (own := RX11) (v := (-2000000000000000)) hx hb hown (hts (.constantLong RX11 281 (-2000000000000000)) wa_1124) dX11_gauged_21 ?_
      exact W.lret (v := (-2000000000000000)) hx hb hr (fun t ht hW => ⟨⟨(-2000000000000000), f, rfl, ⟨hT, hR, trivial, trivial⟩, by rw [ht]; exact hP, va_K.moved hW.alike hK, hD⟩, hS.F ht⟩) hS.2.2 dX11_gauged_24
end
section
set_option maxHeartbeats 4000000 in
set_option maxRecDepth 100000 in
theorem t_X11_cargo (l : Launch) (dC : Nat → ClassId) (dI : Nat → Nat → Nat) (sz : Nat) (Ω : Nat → Nat → (Nat → Nat) → va_E → Prop) (κ : Nat → ClassId) (τ ν : Nat → Nat) (ρ : Nat → Nat → Nat) (L : List Nat) (f : Nat → va_E) (hG : tp_G τ ν ρ L) (hT : tp_T Ω κ τ ν ρ f) (h0 : Nat) (v : Int32) (u : Int32) (a : Int32) (b : Int32) (a5 : Int32) (a6 : Int32) (a7 : Int32) (a8 : Int32) (ht_h0 : τ h0 = 12) : Met l yX11_cargo wqX11_cargo ({ frames := 5, cells := 0, slots := 0, locals := 1600 }) (va_Pc [.ref h0, .int v, .int u, .int a, .int b, .int a5, .int a6, .int a7, .int a8] (pz_B dC dI (tp_K κ) (va_pl L f) sz)) (va_Qi (fun (r : Int32) (f1 : Nat → va_E) => tp_T Ω κ τ ν ρ f1 ∧ tp_F τ [5, 12, 21] f f1 ∧ True ∧ tp_X τ ρ (fun n => n = 18) f f1 ∧ ((((¬ (((0 ≤ a.toInt ∧ a.toInt ≤ 2399) ∧ (0 ≤ b.toInt ∧ b.toInt ≤ 2399) ∧ a.toInt ≤ b.toInt) ∧ ((0 ≤ a5.toInt ∧ a5.toInt ≤ 2399) ∧ (0 ≤ a6.toInt ∧ a6.toInt ≤ 2399) ∧ a5.toInt ≤ a6.toInt) ∧ (1 ≤ a7.toInt ∧ a7.toInt ≤ 200000) ∧ (0 ≤ a8.toInt ∧ a8.toInt ≤ 1000))) → r.toInt = -1) ∧ (¬ (¬ (((0 ≤ a.toInt ∧ a.toInt ≤ 2399) ∧ (0 ≤ b.toInt ∧ b.toInt ≤ 2399) ∧ a.toInt ≤ b.toInt) ∧ ((0 ≤ a5.toInt ∧ a5.toInt ≤ 2399) ∧ (0 ≤ a6.toInt ∧ a6.toInt ≤ 2399) ∧ a5.toInt ≤ a6.toInt) ∧ (1 ≤ a7.toInt ∧ a7.toInt ≤ 200000) ∧ (0 ≤ a8.toInt ∧ a8.toInt ≤ 1000))) → (((¬ ((0 ≤ v.toInt ∧ v.toInt < (tp_fld (f (ρ h0 0)) 4)) ∧ (0 ≤ u.toInt ∧ u.toInt < (tp_fld (f (ρ h0 0)) 4)))) → r.toInt = -2) ∧ (¬ (¬ ((0 ≤ v.toInt ∧ v.toInt < (tp_fld (f (ρ h0 0)) 4)) ∧ (0 ≤ u.toInt ∧ u.toInt < (tp_fld (f (ρ h0 0)) 4)))) → (((v.toInt = u.toInt) → r.toInt = -3) ∧ (¬ (v.toInt = u.toInt) → ((((tp_fld (f (ρ (ρ h0 0) 18)) 2) = 6) → r.toInt = -5) ∧ (¬ ((tp_fld (f (ρ (ρ h0 0) 18)) 2) = 6) → r.toInt = (tp_fld (f (ρ (ρ h0 0) 18)) 2) + 1))))))))) ∧ ((((¬ (((0 ≤ a.toInt ∧ a.toInt ≤ 2399) ∧ (0 ≤ b.toInt ∧ b.toInt ≤ 2399) ∧ a.toInt ≤ b.toInt) ∧ ((0 ≤ a5.toInt ∧ a5.toInt ≤ 2399) ∧ (0 ≤ a6.toInt ∧ a6.toInt ≤ 2399) ∧ a5.toInt ≤ a6.toInt) ∧ (1 ≤ a7.toInt ∧ a7.toInt ≤ 200000) ∧ (0 ≤ a8.toInt ∧ a8.toInt ≤ 1000))) → (tp_fld (f1 (ρ (ρ h0 0) 18)) 2) = (tp_fld (f (ρ (ρ h0 0) 18)) 2)) ∧ (¬ (¬ (((0 ≤ a.toInt ∧ a.toInt ≤ 2399) ∧ (0 ≤ b.toInt ∧ b.toInt ≤ 2399) ∧ a.toInt ≤ b.toInt) ∧ ((0 ≤ a5.toInt ∧ a5.toInt ≤ 2399) ∧ (0 ≤ a6.toInt ∧ a6.toInt ≤ 2399) ∧ a5.toInt ≤ a6.toInt) ∧ (1 ≤ a7.toInt ∧ a7.toInt ≤ 200000) ∧ (0 ≤ a8.toInt ∧ a8.toInt ≤ 1000))) → (((¬ ((0 ≤ v.toInt ∧ v.toInt < (tp_fld (f (ρ h0 0)) 4)) ∧ (0 ≤ u.toInt ∧ u.toInt < (tp_fld (f (ρ h0 0)) 4)))) → (tp_fld (f1 (ρ (ρ h0 0) 18)) 2) = (tp_fld (f (ρ (ρ h0 0) 18)) 2)) ∧ (¬ (¬ ((0 ≤ v.toInt ∧ v.toInt < (tp_fld (f (ρ h0 0)) 4)) ∧ (0 ≤ u.toInt ∧ u.toInt < (tp_fld (f (ρ h0 0)) 4)))) → (((v.toInt = u.toInt) → (tp_fld (f1 (ρ (ρ h0 0) 18)) 2) = (tp_fld (f (ρ (ρ h0 0) 18)) 2)) ∧ (¬ (v.toInt = u.toInt) → ((((tp_fld (f (ρ (ρ h0 0) 18)) 2) = 6) → (tp_fld (f1 (ρ (ρ h0 0) 18)) 2) = (tp_fld (f (ρ (ρ h0 0) 18)) 2)) ∧ (¬ ((tp_fld (f (ρ (ρ h0 0) 18)) 2) = 6) → (tp_fld (f1 (ρ (ρ h0 0) 18)) 2) = (tp_fld (f (ρ (ρ h0 0) 18)) 2) + 1)))))))))) (fun (f1 : Nat → va_E) (t : State) => pz_E dC dI (tp_K κ) (va_A (va_pl L f) sz) (va_pl L f1) t) (va_A (va_pl L f) sz)) 0 0 (va_A (va_pl L f) sz) := by
  refine Met.ofW (cc := cX11_cargo) (maxL := 10) (ret := some .int) (by decide) rfl ?_
  intro p e s m args below meth c s₁ B hml hv
  obtain ⟨rfl, hsz, hP, hK, hD0, hN⟩ := hv
  have hx := B.exec
  have hb := B.bytes
  have hr := B.returns
  have hts := fun (w : Cond) (h : w ∈ WALL) => atoms_spec (ws := wqX11_cargo) B.pre w (List.mem_cons_of_mem _ h)
  have hown : s.vm.findClass RX11 = some m.cls := findClass_of_methodNamed B.named
  have hlocks := B.notSynchronized
  subst hsz
  have hD := hD0.self (sz := s.heap.size)
  generalize hAe : va_A (va_pl L f) s.heap.size = A at hD ⊢
  have hA : ∀ q : Nat, s.heap.size ≤ q → A q := fun q h => by rw [← hAe]; exact Or.inr h
  have hS : va_S A s.heap s.heap [] := va_S.rf
  have hR : tp_F τ [5, 12, 21] f f := tp_F.rf
  have hX : tp_X τ ρ (fun n => n = 18) f f := tp_X.rf
  have hl := lv_entry ([.ref h0, .int v, .int u, .int a, .int b, .int a5, .int a6, .int a7, .int a8]) (n := 10) (Nat.le_of_ble_eq_true rfl)
  rw [lg_entry_eq]
  generalize (lg_sl ([.ref h0, .int v, .int u, .int a, .int b, .int a5, .int a6, .int a7, .int a8]) ++ List.replicate (10 - (lg_sl ([.ref h0, .int v, .int u, .int a, .int b, .int a5, .int a6, .int a7, .int a8])).length) Slot.unset).toArray = ls at hl ⊢
  have hl : lv_has ls 10 [(0, .ref h0), (1, .int v), (2, .int u), (3, .int a), (4, .int b), (5, .int a5), (6, .int a6), (7, .int a7), (8, .int a8)] := hl
  refine tgk_12 hG ht_h0 (fun y1 y1l y2 y3 y4 y5 y6 y7a y7b y7c => ?_)
  refine tgk_11 hG y1 (fun y8 y8n y9 y9n y10 y11 y12 y13 y13m y13l y14 y14m y14l y15 y15m y15l y16 y16w y16m y16l y17 y17w y17m y17l y18 y18w y18m y18l y19 y19w y19m y19l => ?_)
  refine tpk_11 hT y1 (fun o20_x0 o20_x1 o20_x2 o20_x3 o20_x4 o20_x5 o20_x6 hf_o20 ro20_0 ro20_1 ro20_2 ro20_3 => ?_)
  refine tgk_5 hG y19 (fun y21 y21n y22a y22b y22c => ?_)
  refine tpk_5 hT y19 (fun o23_x0 o23_x2 hf_o23 ro23_0 ro23_1 => ?_)
  refine lv_iload_n hx hb dX11_cargo_0 rfl (lv_at hl 3 rfl) ?_
  refine lv_iload hx hb dX11_cargo_1 (lv_at hl 4 rfl) ?_
  refine pz_calli (va_runS (As := [.int a, .int b]) (rest := []) ⟨hx, hb, hml, hown, hts⟩ (t_X11_isSpan l dC dI _ a b (a.toInt) (b.toInt) rfl rfl) (va_cwS 2 hts gX11_cargo_X11_isSpan rfl rfl rfl pd_X11_isSpan ⟨Nat.le_of_ble_eq_true rfl, Nat.le_of_ble_eq_true rfl⟩) ⟨pz_blind, pz_pre pz_P0 (hK.sub (tys' := []) [] rfl) (pz_D0 (A := fun _ => True)) hN⟩ rfl rfl hl.1 rfl (lv_room (Nat.le_of_ble_eq_true rfl)) dX11_cargo_3 ⟨Nat.le_of_ble_eq_true rfl, Nat.le_of_ble_eq_true rfl⟩) (fun r24 hw25 => ?_)
  obtain ⟨hw25r, hw25p⟩ := hw25
  refine lv_if_eq (tgt := 42) hx hb dX11_cargo_6 (by decide) (fun c26 => ?_) (fun c26 => ?_)
  · have ic26 : r24.toInt = 0 := zi_eq rfl rfl c26
    have p27 : ¬ ((0 ≤ (a.toInt) ∧ (a.toInt) ≤ 2399) ∧ (0 ≤ (b.toInt) ∧ (b.toInt) ≤ 2399) ∧ (a.toInt) ≤ (b.toInt)) := (tp_cond.no hw25p) (by omega)
    clear hw25r ic26
    refine lv_aload_n hx hb dX11_cargo_42 rfl (lv_at hl 0 rfl) ?_
    refine lv_iconst (v := (-1)) hx hb dX11_cargo_43 (by decide) ?_
    refine tpk_12 hT ht_h0 (fun o28_x6 hf_o28 => ?_)
    refine tpk_pos (tp_in hG ht_h0 (by decide)) hf_o28 (fun q29 eq29 => ?_)
    have hFc := tp_fr hD hS hA
    refine va_calli (va_runV (As := [.int (-1)]) (rest := []) ⟨hx, hb, hml, hown, hts⟩ (t_X11_refuse l dC dI _ Ω κ τ ν ρ L f hG hT h0 ((-1)) ht_h0) (cwV 1 hts gX11_cargo_X11_refuse rfl rfl rfl ⟨rfl, pd_X11_refuse⟩ ⟨Nat.le_of_ble_eq_true rfl, Nat.le_of_ble_eq_true rfl⟩) ⟨pz_blind, va_recv hK hP (ci := 11) (q0 := q29) rfl eq29, pz_pre hP hK hD hN⟩ rfl rfl hl.1 rfl (lv_room (Nat.le_of_ble_eq_true rfl)) dX11_cargo_44 ⟨Nat.le_of_ble_eq_true rfl, Nat.le_of_ble_eq_true rfl⟩) hS (fun q _ h => hFc q h) hFc (fun r30 f32 t H1 locs ht hvm hw31 hB hz1 hk1 hS => ?_)
    refine tn_4 hw31 (fun hT hF33 hw31r hw31p => ?_); clear hw31
    have hR := hR.then hF33 (by decide)
    have hX := hX.fr hF33 (by decide)
    have hP := hB.1; rw [ht] at hP; have hD := tp_ad f32 hD; clear hB hFc hz1 hk1; subst ht; generalize t.heap = H at hP hS ⊢
    have hw31pq : r30.toInt = (-1) := by rw [hw31p]; rfl
    have ro20_1 := tp_hu ro20_1
    have tv34 : tp_fld (f (ρ h0 0)) 4 = o20_x4.toInt := by rw [hf_o20]; rfl
    have ro23_1 := tp_hu ro23_1
    have tv35 : tp_fld (f (ρ (ρ h0 0) 18)) 2 = o23_x2.toInt := by rw [hf_o23]; rfl
    have hf_36 : f32 (ρ (ρ h0 0) 18) = .inr (4, [.int o23_x0, .ref (ρ (ρ (ρ h0 0) 18) 1), .int o23_x2]) := (hF33 _ (by rw [tp_iu y19]; decide)).trans hf_o23
    have tv37 : tp_fld (f32 (ρ (ρ h0 0) 18)) 2 = o23_x2.toInt := by rw [hf_36]; rfl
    exact W.iret (v := r30) hx hb hr (fun t ht hW => ⟨⟨r30, f32, rfl, ⟨hT, hR, trivial, ⟨hX, (by rw [tv34, tv35, tv37]; exact ⟨⟨fun q0 => by omega, fun q0 => ⟨fun q1 => by omega, fun q1 => ⟨fun q2 => by omega, fun q2 => ⟨fun q3 => by omega, fun q3 => (by omega)⟩⟩⟩⟩, ⟨fun q0 => by omega, fun q0 => ⟨fun q1 => by omega, fun q1 => ⟨fun q2 => by omega, fun q2 => ⟨fun q3 => by omega, fun q3 => (by omega)⟩⟩⟩⟩⟩)⟩⟩, by rw [ht]; exact hP, va_K.moved hW.alike hK, hD⟩, hS.F ht⟩) hS.2.2 dX11_cargo_47
  · have ic26 : r24.toInt ≠ 0 := zi_eqf rfl rfl c26
    have p38 : (0 ≤ (a.toInt) ∧ (a.toInt) ≤ 2399) ∧ (0 ≤ (b.toInt) ∧ (b.toInt) ≤ 2399) ∧ (a.toInt) ≤ (b.toInt) := (tp_cond.yes hw25p) (by omega)
    clear hw25r ic26
    refine lv_iload hx hb dX11_cargo_9 (lv_at hl 5 rfl) ?_
    refine lv_iload hx hb dX11_cargo_11 (lv_at hl 6 rfl) ?_
    refine pz_calli (va_runS (As := [.int a5, .int a6]) (rest := []) ⟨hx, hb, hml, hown, hts⟩ (t_X11_isSpan l dC dI _ a5 a6 (a5.toInt) (a6.toInt) rfl rfl) (va_cwS 2 hts gX11_cargo_X11_isSpan rfl rfl rfl pd_X11_isSpan ⟨Nat.le_of_ble_eq_true rfl, Nat.le_of_ble_eq_true rfl⟩) ⟨pz_blind, pz_pre pz_P0 (hK.sub (tys' := []) [] rfl) (pz_D0 (A := fun _ => True)) hN⟩ rfl rfl hl.1 rfl (lv_room (Nat.le_of_ble_eq_true rfl)) dX11_cargo_13 ⟨Nat.le_of_ble_eq_true rfl, Nat.le_of_ble_eq_true rfl⟩) (fun r39 hw40 => ?_)
    obtain ⟨hw40r, hw40p⟩ := hw40
    refine lv_if_eq (tgt := 42) hx hb dX11_cargo_16 (by decide) (fun c41 => ?_) (fun c41 => ?_)
    · have ic41 : r39.toInt = 0 := zi_eq rfl rfl c41
      have p42 : ¬ ((0 ≤ (a5.toInt) ∧ (a5.toInt) ≤ 2399) ∧ (0 ≤ (a6.toInt) ∧ (a6.toInt) ≤ 2399) ∧ (a5.toInt) ≤ (a6.toInt)) := (tp_cond.no hw40p) (by omega)
      clear hw40r ic41
      refine lv_aload_n hx hb dX11_cargo_42 rfl (lv_at hl 0 rfl) ?_
      refine lv_iconst (v := (-1)) hx hb dX11_cargo_43 (by decide) ?_
      refine tpk_12 hT ht_h0 (fun o43_x6 hf_o43 => ?_)
      refine tpk_pos (tp_in hG ht_h0 (by decide)) hf_o43 (fun q44 eq44 => ?_)
      have hFc := tp_fr hD hS hA
      refine va_calli (va_runV (As := [.int (-1)]) (rest := []) ⟨hx, hb, hml, hown, hts⟩ (t_X11_refuse l dC dI _ Ω κ τ ν ρ L f hG hT h0 ((-1)) ht_h0) (cwV 1 hts gX11_cargo_X11_refuse rfl rfl rfl ⟨rfl, pd_X11_refuse⟩ ⟨Nat.le_of_ble_eq_true rfl, Nat.le_of_ble_eq_true rfl⟩) ⟨pz_blind, va_recv hK hP (ci := 11) (q0 := q44) rfl eq44, pz_pre hP hK hD hN⟩ rfl rfl hl.1 rfl (lv_room (Nat.le_of_ble_eq_true rfl)) dX11_cargo_44 ⟨Nat.le_of_ble_eq_true rfl, Nat.le_of_ble_eq_true rfl⟩) hS (fun q _ h => hFc q h) hFc (fun r45 f47 t H1 locs ht hvm hw46 hB hz1 hk1 hS => ?_)
      refine tn_4 hw46 (fun hT hF48 hw46r hw46p => ?_); clear hw46
      have hR := hR.then hF48 (by decide)
      have hX := hX.fr hF48 (by decide)
      have hP := hB.1; rw [ht] at hP; have hD := tp_ad f47 hD; clear hB hFc hz1 hk1; subst ht; generalize t.heap = H at hP hS ⊢
      have hw46pq : r45.toInt = (-1) := by rw [hw46p]; rfl
      have ro20_1 := tp_hu ro20_1
      have tv49 : tp_fld (f (ρ h0 0)) 4 = o20_x4.toInt := by rw [hf_o20]; rfl
      have ro23_1 := tp_hu ro23_1
      have tv50 : tp_fld (f (ρ (ρ h0 0) 18)) 2 = o23_x2.toInt := by rw [hf_o23]; rfl
      have hf_51 : f47 (ρ (ρ h0 0) 18) = .inr (4, [.int o23_x0, .ref (ρ (ρ (ρ h0 0) 18) 1), .int o23_x2]) := (hF48 _ (by rw [tp_iu y19]; decide)).trans hf_o23
      have tv52 : tp_fld (f47 (ρ (ρ h0 0) 18)) 2 = o23_x2.toInt := by rw [hf_51]; rfl
      exact W.iret (v := r45) hx hb hr (fun t ht hW => ⟨⟨r45, f47, rfl, ⟨hT, hR, trivial, ⟨hX, (by rw [tv49, tv50, tv52]; exact ⟨⟨fun q0 => by omega, fun q0 => ⟨fun q1 => by omega, fun q1 => ⟨fun q2 => by omega, fun q2 => ⟨fun q3 => by omega, fun q3 => (by omega)⟩⟩⟩⟩, ⟨fun q0 => by omega, fun q0 => ⟨fun q1 => by omega, fun q1 => ⟨fun q2 => by omega, fun q2 => ⟨fun q3 => by omega, fun q3 => (by omega)⟩⟩⟩⟩⟩)⟩⟩, by rw [ht]; exact hP, va_K.moved hW.alike hK, hD⟩, hS.F ht⟩) hS.2.2 dX11_cargo_47
    · have ic41 : r39.toInt ≠ 0 := zi_eqf rfl rfl c41
      have p53 : (0 ≤ (a5.toInt) ∧ (a5.toInt) ≤ 2399) ∧ (0 ≤ (a6.toInt) ∧ (a6.toInt) ≤ 2399) ∧ (a5.toInt) ≤ (a6.toInt) := (tp_cond.yes hw40p) (by omega)
      clear hw40r ic41
      refine lv_iload hx hb dX11_cargo_19 (lv_at hl 7 rfl) ?_
      refine lv_iconst (v := 1) hx hb dX11_cargo_21 (by decide) ?_
      refine lv_ldc (own := RX11) (v := 200000) hx hb hown (hts (.constant RX11 76 (200000)) wa_232) dX11_cargo_22 ?_
      refine pz_calli (va_runS (As := [.int a7, .int 1, .int 200000]) (rest := []) ⟨hx, hb, hml, hown, hts⟩ (t_X11_within l dC dI _ a7 (1) (200000) (a7.toInt) (1) (200000) rfl rfl rfl) (va_cwS 3 hts gX11_cargo_X11_within rfl rfl rfl pd_X11_within ⟨Nat.le_of_ble_eq_true rfl, Nat.le_of_ble_eq_true rfl⟩) ⟨pz_blind, pz_pre pz_P0 (hK.sub (tys' := []) [] rfl) (pz_D0 (A := fun _ => True)) hN⟩ rfl rfl hl.1 rfl (lv_room (Nat.le_of_ble_eq_true rfl)) dX11_cargo_24 ⟨Nat.le_of_ble_eq_true rfl, Nat.le_of_ble_eq_true rfl⟩) (fun r54 hw55 => ?_)
      obtain ⟨hw55r, hw55p⟩ := hw55
      refine lv_if_eq (tgt := 42) hx hb dX11_cargo_27 (by decide) (fun c56 => ?_) (fun c56 => ?_)
      · have ic56 : r54.toInt = 0 := zi_eq rfl rfl c56
        have p57 : ¬ ((1) ≤ (a7.toInt) ∧ (a7.toInt) ≤ (200000)) := (tp_cond.no hw55p) (by omega)
        clear hw55r ic56
        refine lv_aload_n hx hb dX11_cargo_42 rfl (lv_at hl 0 rfl) ?_
        refine lv_iconst (v := (-1)) hx hb dX11_cargo_43 (by decide) ?_
        refine tpk_12 hT ht_h0 (fun o58_x6 hf_o58 => ?_)
        refine tpk_pos (tp_in hG ht_h0 (by decide)) hf_o58 (fun q59 eq59 => ?_)
        have hFc := tp_fr hD hS hA
        refine va_calli (va_runV (As := [.int (-1)]) (rest := []) ⟨hx, hb, hml, hown, hts⟩ (t_X11_refuse l dC dI _ Ω κ τ ν ρ L f hG hT h0 ((-1)) ht_h0) (cwV 1 hts gX11_cargo_X11_refuse rfl rfl rfl ⟨rfl, pd_X11_refuse⟩ ⟨Nat.le_of_ble_eq_true rfl, Nat.le_of_ble_eq_true rfl⟩) ⟨pz_blind, va_recv hK hP (ci := 11) (q0 := q59) rfl eq59, pz_pre hP hK hD hN⟩ rfl rfl hl.1 rfl (lv_room (Nat.le_of_ble_eq_true rfl)) dX11_cargo_44 ⟨Nat.le_of_ble_eq_true rfl, Nat.le_of_ble_eq_true rfl⟩) hS (fun q _ h => hFc q h) hFc (fun r60 f62 t H1 locs ht hvm hw61 hB hz1 hk1 hS => ?_)
        refine tn_4 hw61 (fun hT hF63 hw61r hw61p => ?_); clear hw61
        have hR := hR.then hF63 (by decide)
        have hX := hX.fr hF63 (by decide)
        have hP := hB.1; rw [ht] at hP; have hD := tp_ad f62 hD; clear hB hFc hz1 hk1; subst ht; generalize t.heap = H at hP hS ⊢
        have hw61pq : r60.toInt = (-1) := by rw [hw61p]; rfl
        have ro20_1 := tp_hu ro20_1
        have tv64 : tp_fld (f (ρ h0 0)) 4 = o20_x4.toInt := by rw [hf_o20]; rfl
        have ro23_1 := tp_hu ro23_1
        have tv65 : tp_fld (f (ρ (ρ h0 0) 18)) 2 = o23_x2.toInt := by rw [hf_o23]; rfl
        have hf_66 : f62 (ρ (ρ h0 0) 18) = .inr (4, [.int o23_x0, .ref (ρ (ρ (ρ h0 0) 18) 1), .int o23_x2]) := (hF63 _ (by rw [tp_iu y19]; decide)).trans hf_o23
        have tv67 : tp_fld (f62 (ρ (ρ h0 0) 18)) 2 = o23_x2.toInt := by rw [hf_66]; rfl
        exact W.iret (v := r60) hx hb hr (fun t ht hW => ⟨⟨r60, f62, rfl, ⟨hT, hR, trivial, ⟨hX, (by rw [tv64, tv65, tv67]; exact ⟨⟨fun q0 => by omega, fun q0 => ⟨fun q1 => by omega, fun q1 => ⟨fun q2 => by omega, fun q2 => ⟨fun q3 => by omega, fun q3 => (by omega)⟩⟩⟩⟩, ⟨fun q0 => by omega, fun q0 => ⟨fun q1 => by omega, fun q1 => ⟨fun q2 => by omega, fun q2 => ⟨fun q3 => by omega, fun q3 => (by omega)⟩⟩⟩⟩⟩)⟩⟩, by rw [ht]; exact hP, va_K.moved hW.alike hK, hD⟩, hS.F ht⟩) hS.2.2 dX11_cargo_47
      · have ic56 : r54.toInt ≠ 0 := zi_eqf rfl rfl c56
        have p68 : (1) ≤ (a7.toInt) ∧ (a7.toInt) ≤ (200000) := (tp_cond.yes hw55p) (by omega)
        clear hw55r ic56
        refine lv_iload hx hb dX11_cargo_30 (lv_at hl 8 rfl) ?_
        refine lv_iconst (v := 0) hx hb dX11_cargo_32 (by decide) ?_
        refine lv_sipush (v := 1000) hx hb dX11_cargo_33 (by decide) ?_
        refine pz_calli (va_runS (As := [.int a8, .int 0, .int 1000]) (rest := []) ⟨hx, hb, hml, hown, hts⟩ (t_X11_within l dC dI _ a8 (0) (1000) (a8.toInt) (0) (1000) rfl rfl rfl) (va_cwS 3 hts gX11_cargo_X11_within rfl rfl rfl pd_X11_within ⟨Nat.le_of_ble_eq_true rfl, Nat.le_of_ble_eq_true rfl⟩) ⟨pz_blind, pz_pre pz_P0 (hK.sub (tys' := []) [] rfl) (pz_D0 (A := fun _ => True)) hN⟩ rfl rfl hl.1 rfl (lv_room (Nat.le_of_ble_eq_true rfl)) dX11_cargo_36 ⟨Nat.le_of_ble_eq_true rfl, Nat.le_of_ble_eq_true rfl⟩) (fun r69 hw70 => ?_)
        obtain ⟨hw70r, hw70p⟩ := hw70
        refine lv_if_ne (tgt := 48) hx hb dX11_cargo_39 (by decide) (fun c71 => ?_) (fun c71 => ?_)
        · have ic71 : r69.toInt ≠ 0 := zi_ne rfl rfl c71
          have p72 : (0) ≤ (a8.toInt) ∧ (a8.toInt) ≤ (1000) := (tp_cond.yes hw70p) (by omega)
          clear hw70r ic71
          refine lv_aload_n hx hb dX11_cargo_48 rfl (lv_at hl 0 rfl) ?_
          refine tpk_12 hT ht_h0 (fun o73_x6 hf_o73 => ?_)
          refine tpk_pos (tp_in hG ht_h0 (by decide)) hf_o73 (fun q74 eq74 => ?_)
          refine va_get (D := (dC, dI)) (ci := 11) (v := .ref (ρ h0 0)) (C := RX11) (T := TX11) (N := 7) hx hb hts hfX11 hown hK hP q74 eq74 rfl 0 (by decide) (hts (.fieldLink RX11 10 "ColdShips" "world" "LColdShips$World;") wa_15) (fun _ h9 => h9) rfl dX11_cargo_49 ?_
          refine lv_iload_n hx hb dX11_cargo_52 rfl (lv_at hl 1 rfl) ?_
          refine tpk_pos (tp_in hG y1 (by decide)) hf_o20 (fun q75 eq75 => ?_)
          have ro20_0 := tp_hu ro20_0; have ro20_1 := tp_hu ro20_1; have ro20_2 := tp_hu ro20_2; have ro20_3 := tp_hu ro20_3
          refine pz_calli (va_runV (As := [.int v]) (rest := []) ⟨hx, hb, hml, hown, hts⟩ (t_X10_hasTerminal l dC dI _ Ω κ τ ν ρ L f hG hT (ρ h0 0) v y1 o20_x0 o20_x1 o20_x2 o20_x3 o20_x4 o20_x5 o20_x6 hf_o20) (cwV 1 hts gX11_cargo_X10_hasTerminal rfl rfl rfl ⟨rfl, pd_X10_hasTerminal⟩ ⟨Nat.le_of_ble_eq_true rfl, Nat.le_of_ble_eq_true rfl⟩) ⟨pz_blind, va_recv hK hP (ci := 10) (q0 := q75) rfl eq75, pz_pre hP hK hD hN⟩ rfl rfl hl.1 rfl (lv_room (Nat.le_of_ble_eq_true rfl)) dX11_cargo_53 ⟨Nat.le_of_ble_eq_true rfl, Nat.le_of_ble_eq_true rfl⟩) (fun r76 hw77 => ?_)
          obtain ⟨hw77r, hw77p⟩ := hw77
          refine lv_if_eq (tgt := 70) hx hb dX11_cargo_56 (by decide) (fun c78 => ?_) (fun c78 => ?_)
          · have ic78 : r76.toInt = 0 := zi_eq rfl rfl c78
            have p79 : ¬ (0 ≤ v.toInt ∧ v.toInt < o20_x4.toInt) := (tp_cond.no hw77p) (by omega)
            clear hw77r ic78
            refine lv_aload_n hx hb dX11_cargo_70 rfl (lv_at hl 0 rfl) ?_
            refine lv_bipush (v := (-2)) hx hb dX11_cargo_71 (by decide) ?_
            have hFc := tp_fr hD hS hA
            refine va_calli (va_runV (As := [.int (-2)]) (rest := []) ⟨hx, hb, hml, hown, hts⟩ (t_X11_refuse l dC dI _ Ω κ τ ν ρ L f hG hT h0 ((-2)) ht_h0) (cwV 1 hts gX11_cargo_X11_refuse rfl rfl rfl ⟨rfl, pd_X11_refuse⟩ ⟨Nat.le_of_ble_eq_true rfl, Nat.le_of_ble_eq_true rfl⟩) ⟨pz_blind, va_recv hK hP (ci := 11) (q0 := q74) rfl eq74, pz_pre hP hK hD hN⟩ rfl rfl hl.1 rfl (lv_room (Nat.le_of_ble_eq_true rfl)) dX11_cargo_73 ⟨Nat.le_of_ble_eq_true rfl, Nat.le_of_ble_eq_true rfl⟩) hS (fun q _ h => hFc q h) hFc (fun r80 f82 t H1 locs ht hvm hw81 hB hz1 hk1 hS => ?_)
            refine tn_4 hw81 (fun hT hF83 hw81r hw81p => ?_); clear hw81
            have hR := hR.then hF83 (by decide)
            have hX := hX.fr hF83 (by decide)
            have hP := hB.1; rw [ht] at hP; have hD := tp_ad f82 hD; clear hB hFc hz1 hk1; subst ht; generalize t.heap = H at hP hS ⊢
            have hw81pq : r80.toInt = (-2) := by rw [hw81p]; rfl
            have tv84 : tp_fld (f (ρ h0 0)) 4 = o20_x4.toInt := by rw [hf_o20]; rfl
            have ro23_1 := tp_hu ro23_1
            have tv85 : tp_fld (f (ρ (ρ h0 0) 18)) 2 = o23_x2.toInt := by rw [hf_o23]; rfl
            have hf_86 : f82 (ρ (ρ h0 0) 18) = .inr (4, [.int o23_x0, .ref (ρ (ρ (ρ h0 0) 18) 1), .int o23_x2]) := (hF83 _ (by rw [tp_iu y19]; decide)).trans hf_o23
            have tv87 : tp_fld (f82 (ρ (ρ h0 0) 18)) 2 = o23_x2.toInt := by rw [hf_86]; rfl
            exact W.iret (v := r80) hx hb hr (fun t ht hW => ⟨⟨r80, f82, rfl, ⟨hT, hR, trivial, ⟨hX, (by rw [tv84, tv85, tv87]; exact ⟨⟨fun q0 => by omega, fun q0 => ⟨fun q1 => by omega, fun q1 => ⟨fun q2 => by omega, fun q2 => ⟨fun q3 => by omega, fun q3 => (by omega)⟩⟩⟩⟩, ⟨fun q0 => by omega, fun q0 => ⟨fun q1 => by omega, fun q1 => ⟨fun q2 => by omega, fun q2 => ⟨fun q3 => by omega, fun q3 => (by omega)⟩⟩⟩⟩⟩)⟩⟩, by rw [ht]; exact hP, va_K.moved hW.alike hK, hD⟩, hS.F ht⟩) hS.2.2 dX11_cargo_76
          · have ic78 : r76.toInt ≠ 0 := zi_eqf rfl rfl c78
            have p88 : 0 ≤ v.toInt ∧ v.toInt < o20_x4.toInt := (tp_cond.yes hw77p) (by omega)
            clear hw77r ic78
            refine lv_aload_n hx hb dX11_cargo_59 rfl (lv_at hl 0 rfl) ?_
            refine va_get (D := (dC, dI)) (ci := 11) (v := .ref (ρ h0 0)) (C := RX11) (T := TX11) (N := 7) hx hb hts hfX11 hown hK hP q74 eq74 rfl 0 (by decide) (hts (.fieldLink RX11 10 "ColdShips" "world" "LColdShips$World;") wa_15) (fun _ h9 => h9) rfl dX11_cargo_60 ?_
            refine lv_iload_n hx hb dX11_cargo_63 rfl (lv_at hl 2 rfl) ?_
            refine pz_calli (va_runV (As := [.int u]) (rest := []) ⟨hx, hb, hml, hown, hts⟩ (t_X10_hasTerminal l dC dI _ Ω κ τ ν ρ L f hG hT (ρ h0 0) u y1 o20_x0 o20_x1 o20_x2 o20_x3 o20_x4 o20_x5 o20_x6 hf_o20) (cwV 1 hts gX11_cargo_X10_hasTerminal rfl rfl rfl ⟨rfl, pd_X10_hasTerminal⟩ ⟨Nat.le_of_ble_eq_true rfl, Nat.le_of_ble_eq_true rfl⟩) ⟨pz_blind, va_recv hK hP (ci := 10) (q0 := q75) rfl eq75, pz_pre hP hK hD hN⟩ rfl rfl hl.1 rfl (lv_room (Nat.le_of_ble_eq_true rfl)) dX11_cargo_64 ⟨Nat.le_of_ble_eq_true rfl, Nat.le_of_ble_eq_true rfl⟩) (fun r89 hw90 => ?_)
            obtain ⟨hw90r, hw90p⟩ := hw90
            refine lv_if_ne (tgt := 77) hx hb dX11_cargo_67 (by decide) (fun c91 => ?_) (fun c91 => ?_)
            · have ic91 : r89.toInt ≠ 0 := zi_ne rfl rfl c91
              have p92 : 0 ≤ u.toInt ∧ u.toInt < o20_x4.toInt := (tp_cond.yes hw90p) (by omega)
              clear hw90r ic91
              refine lv_iload_n hx hb dX11_cargo_77 rfl (lv_at hl 1 rfl) ?_
              refine lv_iload_n hx hb dX11_cargo_78 rfl (lv_at hl 2 rfl) ?_
              refine lv_icmp_ne (tgt := 89) hx hb dX11_cargo_79 (by decide) (fun c93 => ?_) (fun c93 => ?_)
              · have ic93 : v.toInt ≠ u.toInt := zi_ne rfl rfl c93
                refine lv_aload_n hx hb dX11_cargo_89 rfl (lv_at hl 0 rfl) ?_
                refine va_get (D := (dC, dI)) (ci := 11) (v := .ref (ρ h0 0)) (C := RX11) (T := TX11) (N := 7) hx hb hts hfX11 hown hK hP q74 eq74 rfl 0 (by decide) (hts (.fieldLink RX11 10 "ColdShips" "world" "LColdShips$World;") wa_15) (fun _ h9 => h9) rfl dX11_cargo_90 ?_
                refine va_getN (D := (dC, dI)) (ci := 10) (v := .ref (ρ (ρ h0 0) 18)) (C := RX10) (T := TX10) (N := 19) hx hb hts hfX10 hown hK hP q75 eq75 rfl 18 (by decide) (va_Nw.use rfl (hN.1 (.fieldLinkNest RX11 319 "ColdShips$World" "cargoes" "LColdShips$Rows;" "ColdShips") nzw_87)) (fun _ h9 => h9) rfl dX11_cargo_93 ?_
                refine tpk_pos (tp_in hG y19 (by decide)) hf_o23 (fun q94 eq94 => ?_)
                have hFc := tp_fr hD hS hA
                have ro23_0 := tp_hu ro23_0; have ro23_1 := tp_hu ro23_1
                refine va_calli (va_runV (As := []) (rest := []) ⟨hx, hb, hml, hown, hts⟩ (t_X4_addRow l dC dI _ Ω κ τ ν ρ L f hG hT (ρ (ρ h0 0) 18) y19 o23_x0 o23_x2 hf_o23) (cwV 0 hts gX11_cargo_X4_addRow rfl rfl rfl ⟨rfl, pd_X4_addRow⟩ ⟨Nat.le_of_ble_eq_true rfl, Nat.le_of_ble_eq_true rfl⟩) ⟨pz_blind, va_recv hK hP (ci := 4) (q0 := q94) rfl eq94, pz_pre hP hK hD hN⟩ rfl rfl hl.1 rfl (lv_room (Nat.le_of_ble_eq_true rfl)) dX11_cargo_96 ⟨Nat.le_of_ble_eq_true rfl, Nat.le_of_ble_eq_true rfl⟩) hS (fun q _ h => hFc q h) hFc (fun r95 f97 t H1 locs ht hvm hw96 hB hz1 hk1 hS => ?_)
                refine tn_4 hw96 (fun hT hF98 hw96r hw96p => ?_); clear hw96
                have hR := hR.then hF98 (by decide)
                obtain ⟨hw96x, hw96p⟩ := hw96p
                have hX := hX.th hw96x (fun n q9 => by have q8 : n = ρ (ρ (ρ h0 0) 18) 30 := q9; show n = 18; omega)
                have hP := hB.1; rw [ht] at hP; have hD := tp_ad f97 hD; clear hB hFc hz1 hk1; subst ht; generalize t.heap = H at hP hS ⊢
                refine tpk_5 hT y19 (fun o99_x0 o99_x2 hf_o99 ro99_0 ro99_1 => ?_)
                have ro99_1 := tp_hu ro99_1
                have tv100 : tp_fld (f97 (ρ (ρ h0 0) 18)) 2 = o99_x2.toInt := by rw [hf_o99]; rfl
                have pl101 : ((((o23_x2.toInt = (ρ (ρ (ρ h0 0) 18) 11 : Int)) → r95.toInt = -1) ∧ (¬ (o23_x2.toInt = (ρ (ρ (ρ h0 0) 18) 11 : Int)) → r95.toInt = o23_x2.toInt))) ∧ ((((o23_x2.toInt = (ρ (ρ (ρ h0 0) 18) 11 : Int)) → o99_x2.toInt = o23_x2.toInt) ∧ (¬ (o23_x2.toInt = (ρ (ρ (ρ h0 0) 18) 11 : Int)) → o99_x2.toInt = o23_x2.toInt + 1))) := by have q9 := hw96p; rw [tv100] at q9; exact q9
                refine lv_istore (lv' := [(9, .int r95), (0, .ref h0), (1, .int v), (2, .int u), (3, .int a), (4, .int b), (5, .int a5), (6, .int a6), (7, .int a7), (8, .int a8)]) hx hb dX11_cargo_99 hl (by decide) rfl (fun ls hl => ?_)
                refine lv_iload hx hb dX11_cargo_101 (lv_at hl 0 rfl) ?_
                refine lv_iconst (v := (-1)) hx hb dX11_cargo_103 (by decide) ?_
                refine lv_icmp_ne (tgt := 114) hx hb dX11_cargo_104 (by decide) (fun c102 => ?_) (fun c102 => ?_)
                · have ic102 : r95.toInt ≠ (-1) := zi_ne rfl rfl c102
                  refine lv_aload_n hx hb dX11_cargo_114 rfl (lv_at hl 1 rfl) ?_
                  have hf_103 : f97 h0 = .inr (11, [.ref (ρ h0 0), .ref (ρ h0 1), .ref (ρ h0 2), .ref (ρ h0 3), .ref (ρ h0 4), .ref (ρ h0 5), .int o73_x6]) := (hF98 _ (by rw [ht_h0]; decide)).trans hf_o73
                  refine tpk_pos (tp_in hG ht_h0 (by decide)) hf_103 (fun q104 eq104 => ?_)
                  refine va_get (D := (dC, dI)) (ci := 11) (v := .ref (ρ h0 0)) (C := RX11) (T := TX11) (N := 7) hx hb hts hfX11 hown hK hP q104 eq104 rfl 0 (by decide) (hts (.fieldLink RX11 10 "ColdShips" "world" "LColdShips$World;") wa_15) (fun _ h9 => h9) rfl dX11_cargo_115 ?_
                  have hf_105 : f97 (ρ h0 0) = .inr (10, [.int o20_x0, .int o20_x1, .int o20_x2, .int o20_x3, .int o20_x4, .int o20_x5, .int o20_x6, .ref (ρ (ρ h0 0) 7), .ref (ρ (ρ h0 0) 8), .ref (ρ (ρ h0 0) 9), .ref (ρ (ρ h0 0) 10), .ref (ρ (ρ h0 0) 11), .ref (ρ (ρ h0 0) 12), .ref (ρ (ρ h0 0) 13), .ref (ρ (ρ h0 0) 14), .ref (ρ (ρ h0 0) 15), .ref (ρ (ρ h0 0) 16), .ref (ρ (ρ h0 0) 17), .ref (ρ (ρ h0 0) 18)]) := (hF98 _ (by rw [tp_iu y1]; decide)).trans hf_o20
                  refine tpk_pos (tp_in hG y1 (by decide)) hf_105 (fun q106 eq106 => ?_)
                  refine va_getN (D := (dC, dI)) (ci := 10) (v := .ref (ρ (ρ h0 0) 18)) (C := RX10) (T := TX10) (N := 19) hx hb hts hfX10 hown hK hP q106 eq106 rfl 18 (by decide) (va_Nw.use rfl (hN.1 (.fieldLinkNest RX11 319 "ColdShips$World" "cargoes" "LColdShips$Rows;" "ColdShips") nzw_87)) (fun _ h9 => h9) rfl dX11_cargo_118 ?_
                  refine lv_iload hx hb dX11_cargo_121 (lv_at hl 0 rfl) ?_
                  refine lv_iconst (v := 0) hx hb dX11_cargo_123 (by decide) ?_
                  refine lv_iload_n hx hb dX11_cargo_124 rfl (lv_at hl 2 rfl) ?_
                  refine lv_i2l hx hb dX11_cargo_125 rfl ?_
                  refine tpk_pos (tp_in hG y19 (by decide)) hf_o99 (fun q107 eq107 => ?_)
                  have hFc := tp_fr hD hS hA
                  have ro99_0 := tp_hu ro99_0
                  refine va_callv (va_runV (As := [.int r95, .int 0, .long v.toInt64]) (rest := []) ⟨hx, hb, hml, hown, hts⟩ (t_X4_set l dC dI _ Ω κ τ ν ρ L f97 hG hT (ρ (ρ h0 0) 18) r95 (0) v.toInt64 y19 o99_x0 o99_x2 hf_o99) (cwV 3 hts gX11_cargo_X4_set rfl rfl rfl ⟨rfl, pd_X4_set⟩ ⟨Nat.le_of_ble_eq_true rfl, Nat.le_of_ble_eq_true rfl⟩) ⟨pz_blind, va_recv hK hP (ci := 4) (q0 := q107) rfl eq107, pz_pre hP hK hD hN⟩ rfl rfl hl.1 rfl (lv_room (Nat.le_of_ble_eq_true rfl)) dX11_cargo_126 ⟨Nat.le_of_ble_eq_true rfl, Nat.le_of_ble_eq_true rfl⟩) hS (fun q _ h => hFc q h) hFc (fun f110 t H1 locs ht hvm hw109 hB hz1 hk1 hS => ?_)
                  refine tn_3 hw109 (fun hT hF111 hw109p => ?_); clear hw109
                  have hR := hR.then hF111 (by decide)
                  have hX := hX.fr hF111 (by decide)
                  have hP := hB.1; rw [ht] at hP; have hD := tp_ad f110 hD; clear hB hFc hz1 hk1; subst ht; generalize t.heap = H at hP hS ⊢
                  refine lv_aload_n hx hb dX11_cargo_129 rfl (lv_at hl 1 rfl) ?_
                  have hf_112 : f110 h0 = .inr (11, [.ref (ρ h0 0), .ref (ρ h0 1), .ref (ρ h0 2), .ref (ρ h0 3), .ref (ρ h0 4), .ref (ρ h0 5), .int o73_x6]) := (hF111 _ (by rw [ht_h0]; decide)).trans hf_103
                  refine tpk_pos (tp_in hG ht_h0 (by decide)) hf_112 (fun q113 eq113 => ?_)
                  refine va_get (D := (dC, dI)) (ci := 11) (v := .ref (ρ h0 0)) (C := RX11) (T := TX11) (N := 7) hx hb hts hfX11 hown hK hP q113 eq113 rfl 0 (by decide) (hts (.fieldLink RX11 10 "ColdShips" "world" "LColdShips$World;") wa_15) (fun _ h9 => h9) rfl dX11_cargo_130 ?_
                  have hf_114 : f110 (ρ h0 0) = .inr (10, [.int o20_x0, .int o20_x1, .int o20_x2, .int o20_x3, .int o20_x4, .int o20_x5, .int o20_x6, .ref (ρ (ρ h0 0) 7), .ref (ρ (ρ h0 0) 8), .ref (ρ (ρ h0 0) 9), .ref (ρ (ρ h0 0) 10), .ref (ρ (ρ h0 0) 11), .ref (ρ (ρ h0 0) 12), .ref (ρ (ρ h0 0) 13), .ref (ρ (ρ h0 0) 14), .ref (ρ (ρ h0 0) 15), .ref (ρ (ρ h0 0) 16), .ref (ρ (ρ h0 0) 17), .ref (ρ (ρ h0 0) 18)]) := (hF111 _ (by rw [tp_iu y1]; decide)).trans hf_105
                  refine tpk_pos (tp_in hG y1 (by decide)) hf_114 (fun q115 eq115 => ?_)
                  refine va_getN (D := (dC, dI)) (ci := 10) (v := .ref (ρ (ρ h0 0) 18)) (C := RX10) (T := TX10) (N := 19) hx hb hts hfX10 hown hK hP q115 eq115 rfl 18 (by decide) (va_Nw.use rfl (hN.1 (.fieldLinkNest RX11 319 "ColdShips$World" "cargoes" "LColdShips$Rows;" "ColdShips") nzw_87)) (fun _ h9 => h9) rfl dX11_cargo_133 ?_
                  refine lv_iload hx hb dX11_cargo_136 (lv_at hl 0 rfl) ?_
                  refine lv_iconst (v := 1) hx hb dX11_cargo_138 (by decide) ?_
                  refine lv_iload_n hx hb dX11_cargo_139 rfl (lv_at hl 3 rfl) ?_
                  refine lv_i2l hx hb dX11_cargo_140 rfl ?_
                  have hf_116 : f110 (ρ (ρ h0 0) 18) = .inr (4, [.int o99_x0, .ref (ρ (ρ (ρ h0 0) 18) 1), .int o99_x2]) := (hF111 _ (by rw [tp_iu y19]; decide)).trans hf_o99
                  refine tpk_pos (tp_in hG y19 (by decide)) hf_116 (fun q117 eq117 => ?_)
                  have hFc := tp_fr hD hS hA
                  refine va_callv (va_runV (As := [.int r95, .int 1, .long u.toInt64]) (rest := []) ⟨hx, hb, hml, hown, hts⟩ (t_X4_set l dC dI _ Ω κ τ ν ρ L f110 hG hT (ρ (ρ h0 0) 18) r95 (1) u.toInt64 y19 o99_x0 o99_x2 hf_116) (cwV 3 hts gX11_cargo_X4_set rfl rfl rfl ⟨rfl, pd_X4_set⟩ ⟨Nat.le_of_ble_eq_true rfl, Nat.le_of_ble_eq_true rfl⟩) ⟨pz_blind, va_recv hK hP (ci := 4) (q0 := q117) rfl eq117, pz_pre hP hK hD hN⟩ rfl rfl hl.1 rfl (lv_room (Nat.le_of_ble_eq_true rfl)) dX11_cargo_141 ⟨Nat.le_of_ble_eq_true rfl, Nat.le_of_ble_eq_true rfl⟩) hS (fun q _ h => hFc q h) hFc (fun f120 t H1 locs ht hvm hw119 hB hz1 hk1 hS => ?_)
                  refine tn_3 hw119 (fun hT hF121 hw119p => ?_); clear hw119
                  have hR := hR.then hF121 (by decide)
                  have hX := hX.fr hF121 (by decide)
                  have hP := hB.1; rw [ht] at hP; have hD := tp_ad f120 hD; clear hB hFc hz1 hk1; subst ht; generalize t.heap = H at hP hS ⊢
                  refine lv_aload_n hx hb dX11_cargo_144 rfl (lv_at hl 1 rfl) ?_
                  have hf_122 : f120 h0 = .inr (11, [.ref (ρ h0 0), .ref (ρ h0 1), .ref (ρ h0 2), .ref (ρ h0 3), .ref (ρ h0 4), .ref (ρ h0 5), .int o73_x6]) := (hF121 _ (by rw [ht_h0]; decide)).trans hf_112
                  refine tpk_pos (tp_in hG ht_h0 (by decide)) hf_122 (fun q123 eq123 => ?_)
                  refine va_get (D := (dC, dI)) (ci := 11) (v := .ref (ρ h0 0)) (C := RX11) (T := TX11) (N := 7) hx hb hts hfX11 hown hK hP q123 eq123 rfl 0 (by decide) (hts (.fieldLink RX11 10 "ColdShips" "world" "LColdShips$World;") wa_15) (fun _ h9 => h9) rfl dX11_cargo_145 ?_
                  have hf_124 : f120 (ρ h0 0) = .inr (10, [.int o20_x0, .int o20_x1, .int o20_x2, .int o20_x3, .int o20_x4, .int o20_x5, .int o20_x6, .ref (ρ (ρ h0 0) 7), .ref (ρ (ρ h0 0) 8), .ref (ρ (ρ h0 0) 9), .ref (ρ (ρ h0 0) 10), .ref (ρ (ρ h0 0) 11), .ref (ρ (ρ h0 0) 12), .ref (ρ (ρ h0 0) 13), .ref (ρ (ρ h0 0) 14), .ref (ρ (ρ h0 0) 15), .ref (ρ (ρ h0 0) 16), .ref (ρ (ρ h0 0) 17), .ref (ρ (ρ h0 0) 18)]) := (hF121 _ (by rw [tp_iu y1]; decide)).trans hf_114
                  refine tpk_pos (tp_in hG y1 (by decide)) hf_124 (fun q125 eq125 => ?_)
                  refine va_getN (D := (dC, dI)) (ci := 10) (v := .ref (ρ (ρ h0 0) 18)) (C := RX10) (T := TX10) (N := 19) hx hb hts hfX10 hown hK hP q125 eq125 rfl 18 (by decide) (va_Nw.use rfl (hN.1 (.fieldLinkNest RX11 319 "ColdShips$World" "cargoes" "LColdShips$Rows;" "ColdShips") nzw_87)) (fun _ h9 => h9) rfl dX11_cargo_148 ?_
                  refine lv_iload hx hb dX11_cargo_151 (lv_at hl 0 rfl) ?_
                  refine lv_iconst (v := 2) hx hb dX11_cargo_153 (by decide) ?_
                  refine lv_iload_n hx hb dX11_cargo_154 rfl (lv_at hl 4 rfl) ?_
                  refine lv_i2l hx hb dX11_cargo_155 rfl ?_
                  have hf_126 : f120 (ρ (ρ h0 0) 18) = .inr (4, [.int o99_x0, .ref (ρ (ρ (ρ h0 0) 18) 1), .int o99_x2]) := (hF121 _ (by rw [tp_iu y19]; decide)).trans hf_116
                  refine tpk_pos (tp_in hG y19 (by decide)) hf_126 (fun q127 eq127 => ?_)
                  have hFc := tp_fr hD hS hA
                  refine va_callv (va_runV (As := [.int r95, .int 2, .long a.toInt64]) (rest := []) ⟨hx, hb, hml, hown, hts⟩ (t_X4_set l dC dI _ Ω κ τ ν ρ L f120 hG hT (ρ (ρ h0 0) 18) r95 (2) a.toInt64 y19 o99_x0 o99_x2 hf_126) (cwV 3 hts gX11_cargo_X4_set rfl rfl rfl ⟨rfl, pd_X4_set⟩ ⟨Nat.le_of_ble_eq_true rfl, Nat.le_of_ble_eq_true rfl⟩) ⟨pz_blind, va_recv hK hP (ci := 4) (q0 := q127) rfl eq127, pz_pre hP hK hD hN⟩ rfl rfl hl.1 rfl (lv_room (Nat.le_of_ble_eq_true rfl)) dX11_cargo_156 ⟨Nat.le_of_ble_eq_true rfl, Nat.le_of_ble_eq_true rfl⟩) hS (fun q _ h => hFc q h) hFc (fun f130 t H1 locs ht hvm hw129 hB hz1 hk1 hS => ?_)
                  refine tn_3 hw129 (fun hT hF131 hw129p => ?_); clear hw129
                  have hR := hR.then hF131 (by decide)
                  have hX := hX.fr hF131 (by decide)
                  have hP := hB.1; rw [ht] at hP; have hD := tp_ad f130 hD; clear hB hFc hz1 hk1; subst ht; generalize t.heap = H at hP hS ⊢
                  refine lv_aload_n hx hb dX11_cargo_159 rfl (lv_at hl 1 rfl) ?_
                  have hf_132 : f130 h0 = .inr (11, [.ref (ρ h0 0), .ref (ρ h0 1), .ref (ρ h0 2), .ref (ρ h0 3), .ref (ρ h0 4), .ref (ρ h0 5), .int o73_x6]) := (hF131 _ (by rw [ht_h0]; decide)).trans hf_122
                  refine tpk_pos (tp_in hG ht_h0 (by decide)) hf_132 (fun q133 eq133 => ?_)
                  refine va_get (D := (dC, dI)) (ci := 11) (v := .ref (ρ h0 0)) (C := RX11) (T := TX11) (N := 7) hx hb hts hfX11 hown hK hP q133 eq133 rfl 0 (by decide) (hts (.fieldLink RX11 10 "ColdShips" "world" "LColdShips$World;") wa_15) (fun _ h9 => h9) rfl dX11_cargo_160 ?_
                  have hf_134 : f130 (ρ h0 0) = .inr (10, [.int o20_x0, .int o20_x1, .int o20_x2, .int o20_x3, .int o20_x4, .int o20_x5, .int o20_x6, .ref (ρ (ρ h0 0) 7), .ref (ρ (ρ h0 0) 8), .ref (ρ (ρ h0 0) 9), .ref (ρ (ρ h0 0) 10), .ref (ρ (ρ h0 0) 11), .ref (ρ (ρ h0 0) 12), .ref (ρ (ρ h0 0) 13), .ref (ρ (ρ h0 0) 14), .ref (ρ (ρ h0 0) 15), .ref (ρ (ρ h0 0) 16), .ref (ρ (ρ h0 0) 17), .ref (ρ (ρ h0 0) 18)]) := (hF131 _ (by rw [tp_iu y1]; decide)).trans hf_124
                  refine tpk_pos (tp_in hG y1 (by decide)) hf_134 (fun q135 eq135 => ?_)
                  refine va_getN (D := (dC, dI)) (ci := 10) (v := .ref (ρ (ρ h0 0) 18)) (C := RX10) (T := TX10) (N := 19) hx hb hts hfX10 hown hK hP q135 eq135 rfl 18 (by decide) (va_Nw.use rfl (hN.1 (.fieldLinkNest RX11 319 "ColdShips$World" "cargoes" "LColdShips$Rows;" "ColdShips") nzw_87)) (fun _ h9 => h9) rfl dX11_cargo_163 ?_
                  refine lv_iload hx hb dX11_cargo_166 (lv_at hl 0 rfl) ?_
                  refine lv_iconst (v := 3) hx hb dX11_cargo_168 (by decide) ?_
                  refine lv_iload hx hb dX11_cargo_169 (lv_at hl 5 rfl) ?_
                  refine lv_i2l hx hb dX11_cargo_171 rfl ?_
                  have hf_136 : f130 (ρ (ρ h0 0) 18) = .inr (4, [.int o99_x0, .ref (ρ (ρ (ρ h0 0) 18) 1), .int o99_x2]) := (hF131 _ (by rw [tp_iu y19]; decide)).trans hf_126
                  refine tpk_pos (tp_in hG y19 (by decide)) hf_136 (fun q137 eq137 => ?_)
                  have hFc := tp_fr hD hS hA
                  refine va_callv (va_runV (As := [.int r95, .int 3, .long b.toInt64]) (rest := []) ⟨hx, hb, hml, hown, hts⟩ (t_X4_set l dC dI _ Ω κ τ ν ρ L f130 hG hT (ρ (ρ h0 0) 18) r95 (3) b.toInt64 y19 o99_x0 o99_x2 hf_136) (cwV 3 hts gX11_cargo_X4_set rfl rfl rfl ⟨rfl, pd_X4_set⟩ ⟨Nat.le_of_ble_eq_true rfl, Nat.le_of_ble_eq_true rfl⟩) ⟨pz_blind, va_recv hK hP (ci := 4) (q0 := q137) rfl eq137, pz_pre hP hK hD hN⟩ rfl rfl hl.1 rfl (lv_room (Nat.le_of_ble_eq_true rfl)) dX11_cargo_172 ⟨Nat.le_of_ble_eq_true rfl, Nat.le_of_ble_eq_true rfl⟩) hS (fun q _ h => hFc q h) hFc (fun f140 t H1 locs ht hvm hw139 hB hz1 hk1 hS => ?_)
                  refine tn_3 hw139 (fun hT hF141 hw139p => ?_); clear hw139
                  have hR := hR.then hF141 (by decide)
                  have hX := hX.fr hF141 (by decide)
                  have hP := hB.1; rw [ht] at hP; have hD := tp_ad f140 hD; clear hB hFc hz1 hk1; subst ht; generalize t.heap = H at hP hS ⊢
                  refine lv_aload_n hx hb dX11_cargo_175 rfl (lv_at hl 1 rfl) ?_
                  have hf_142 : f140 h0 = .inr (11, [.ref (ρ h0 0), .ref (ρ h0 1), .ref (ρ h0 2), .ref (ρ h0 3), .ref (ρ h0 4), .ref (ρ h0 5), .int o73_x6]) := (hF141 _ (by rw [ht_h0]; decide)).trans hf_132
                  refine tpk_pos (tp_in hG ht_h0 (by decide)) hf_142 (fun q143 eq143 => ?_)
                  refine va_get (D := (dC, dI)) (ci := 11) (v := .ref (ρ h0 0)) (C := RX11) (T := TX11) (N := 7) hx hb hts hfX11 hown hK hP q143 eq143 rfl 0 (by decide) (hts (.fieldLink RX11 10 "ColdShips" "world" "LColdShips$World;") wa_15) (fun _ h9 => h9) rfl dX11_cargo_176 ?_
                  have hf_144 : f140 (ρ h0 0) = .inr (10, [.int o20_x0, .int o20_x1, .int o20_x2, .int o20_x3, .int o20_x4, .int o20_x5, .int o20_x6, .ref (ρ (ρ h0 0) 7), .ref (ρ (ρ h0 0) 8), .ref (ρ (ρ h0 0) 9), .ref (ρ (ρ h0 0) 10), .ref (ρ (ρ h0 0) 11), .ref (ρ (ρ h0 0) 12), .ref (ρ (ρ h0 0) 13), .ref (ρ (ρ h0 0) 14), .ref (ρ (ρ h0 0) 15), .ref (ρ (ρ h0 0) 16), .ref (ρ (ρ h0 0) 17), .ref (ρ (ρ h0 0) 18)]) := (hF141 _ (by rw [tp_iu y1]; decide)).trans hf_134
                  refine tpk_pos (tp_in hG y1 (by decide)) hf_144 (fun q145 eq145 => ?_)
                  refine va_getN (D := (dC, dI)) (ci := 10) (v := .ref (ρ (ρ h0 0) 18)) (C := RX10) (T := TX10) (N := 19) hx hb hts hfX10 hown hK hP q145 eq145 rfl 18 (by decide) (va_Nw.use rfl (hN.1 (.fieldLinkNest RX11 319 "ColdShips$World" "cargoes" "LColdShips$Rows;" "ColdShips") nzw_87)) (fun _ h9 => h9) rfl dX11_cargo_179 ?_
                  refine lv_iload hx hb dX11_cargo_182 (lv_at hl 0 rfl) ?_
                  refine lv_iconst (v := 4) hx hb dX11_cargo_184 (by decide) ?_
                  refine lv_iload hx hb dX11_cargo_185 (lv_at hl 6 rfl) ?_
                  refine lv_i2l hx hb dX11_cargo_187 rfl ?_
                  have hf_146 : f140 (ρ (ρ h0 0) 18) = .inr (4, [.int o99_x0, .ref (ρ (ρ (ρ h0 0) 18) 1), .int o99_x2]) := (hF141 _ (by rw [tp_iu y19]; decide)).trans hf_136
                  refine tpk_pos (tp_in hG y19 (by decide)) hf_146 (fun q147 eq147 => ?_)
                  have hFc := tp_fr hD hS hA
                  refine va_callv (va_runV (As := [.int r95, .int 4, .long a5.toInt64]) (rest := []) ⟨hx, hb, hml, hown, hts⟩ (t_X4_set l dC dI _ Ω κ τ ν ρ L f140 hG hT (ρ (ρ h0 0) 18) r95 (4) a5.toInt64 y19 o99_x0 o99_x2 hf_146) (cwV 3 hts gX11_cargo_X4_set rfl rfl rfl ⟨rfl, pd_X4_set⟩ ⟨Nat.le_of_ble_eq_true rfl, Nat.le_of_ble_eq_true rfl⟩) ⟨pz_blind, va_recv hK hP (ci := 4) (q0 := q147) rfl eq147, pz_pre hP hK hD hN⟩ rfl rfl hl.1 rfl (lv_room (Nat.le_of_ble_eq_true rfl)) dX11_cargo_188 ⟨Nat.le_of_ble_eq_true rfl, Nat.le_of_ble_eq_true rfl⟩) hS (fun q _ h => hFc q h) hFc (fun f150 t H1 locs ht hvm hw149 hB hz1 hk1 hS => ?_)
                  refine tn_3 hw149 (fun hT hF151 hw149p => ?_); clear hw149
                  have hR := hR.then hF151 (by decide)
                  have hX := hX.fr hF151 (by decide)
                  have hP := hB.1; rw [ht] at hP; have hD := tp_ad f150 hD; clear hB hFc hz1 hk1; subst ht; generalize t.heap = H at hP hS ⊢
                  refine lv_aload_n hx hb dX11_cargo_191 rfl (lv_at hl 1 rfl) ?_
                  have hf_152 : f150 h0 = .inr (11, [.ref (ρ h0 0), .ref (ρ h0 1), .ref (ρ h0 2), .ref (ρ h0 3), .ref (ρ h0 4), .ref (ρ h0 5), .int o73_x6]) := (hF151 _ (by rw [ht_h0]; decide)).trans hf_142
                  refine tpk_pos (tp_in hG ht_h0 (by decide)) hf_152 (fun q153 eq153 => ?_)
                  refine va_get (D := (dC, dI)) (ci := 11) (v := .ref (ρ h0 0)) (C := RX11) (T := TX11) (N := 7) hx hb hts hfX11 hown hK hP q153 eq153 rfl 0 (by decide) (hts (.fieldLink RX11 10 "ColdShips" "world" "LColdShips$World;") wa_15) (fun _ h9 => h9) rfl dX11_cargo_192 ?_
                  have hf_154 : f150 (ρ h0 0) = .inr (10, [.int o20_x0, .int o20_x1, .int o20_x2, .int o20_x3, .int o20_x4, .int o20_x5, .int o20_x6, .ref (ρ (ρ h0 0) 7), .ref (ρ (ρ h0 0) 8), .ref (ρ (ρ h0 0) 9), .ref (ρ (ρ h0 0) 10), .ref (ρ (ρ h0 0) 11), .ref (ρ (ρ h0 0) 12), .ref (ρ (ρ h0 0) 13), .ref (ρ (ρ h0 0) 14), .ref (ρ (ρ h0 0) 15), .ref (ρ (ρ h0 0) 16), .ref (ρ (ρ h0 0) 17), .ref (ρ (ρ h0 0) 18)]) := (hF151 _ (by rw [tp_iu y1]; decide)).trans hf_144
                  refine tpk_pos (tp_in hG y1 (by decide)) hf_154 (fun q155 eq155 => ?_)
                  refine va_getN (D := (dC, dI)) (ci := 10) (v := .ref (ρ (ρ h0 0) 18)) (C := RX10) (T := TX10) (N := 19) hx hb hts hfX10 hown hK hP q155 eq155 rfl 18 (by decide) (va_Nw.use rfl (hN.1 (.fieldLinkNest RX11 319 "ColdShips$World" "cargoes" "LColdShips$Rows;" "ColdShips") nzw_87)) (fun _ h9 => h9) rfl dX11_cargo_195 ?_
                  refine lv_iload hx hb dX11_cargo_198 (lv_at hl 0 rfl) ?_
                  refine lv_iconst (v := 5) hx hb dX11_cargo_200 (by decide) ?_
                  refine lv_iload hx hb dX11_cargo_201 (lv_at hl 7 rfl) ?_
                  refine lv_i2l hx hb dX11_cargo_203 rfl ?_
                  have hf_156 : f150 (ρ (ρ h0 0) 18) = .inr (4, [.int o99_x0, .ref (ρ (ρ (ρ h0 0) 18) 1), .int o99_x2]) := (hF151 _ (by rw [tp_iu y19]; decide)).trans hf_146
                  refine tpk_pos (tp_in hG y19 (by decide)) hf_156 (fun q157 eq157 => ?_)
                  have hFc := tp_fr hD hS hA
                  refine va_callv (va_runV (As := [.int r95, .int 5, .long a6.toInt64]) (rest := []) ⟨hx, hb, hml, hown, hts⟩ (t_X4_set l dC dI _ Ω κ τ ν ρ L f150 hG hT (ρ (ρ h0 0) 18) r95 (5) a6.toInt64 y19 o99_x0 o99_x2 hf_156) (cwV 3 hts gX11_cargo_X4_set rfl rfl rfl ⟨rfl, pd_X4_set⟩ ⟨Nat.le_of_ble_eq_true rfl, Nat.le_of_ble_eq_true rfl⟩) ⟨pz_blind, va_recv hK hP (ci := 4) (q0 := q157) rfl eq157, pz_pre hP hK hD hN⟩ rfl rfl hl.1 rfl (lv_room (Nat.le_of_ble_eq_true rfl)) dX11_cargo_204 ⟨Nat.le_of_ble_eq_true rfl, Nat.le_of_ble_eq_true rfl⟩) hS (fun q _ h => hFc q h) hFc (fun f160 t H1 locs ht hvm hw159 hB hz1 hk1 hS => ?_)
                  refine tn_3 hw159 (fun hT hF161 hw159p => ?_); clear hw159
                  have hR := hR.then hF161 (by decide)
                  have hX := hX.fr hF161 (by decide)
                  have hP := hB.1; rw [ht] at hP; have hD := tp_ad f160 hD; clear hB hFc hz1 hk1; subst ht; generalize t.heap = H at hP hS ⊢
                  refine lv_aload_n hx hb dX11_cargo_207 rfl (lv_at hl 1 rfl) ?_
                  have hf_162 : f160 h0 = .inr (11, [.ref (ρ h0 0), .ref (ρ h0 1), .ref (ρ h0 2), .ref (ρ h0 3), .ref (ρ h0 4), .ref (ρ h0 5), .int o73_x6]) := (hF161 _ (by rw [ht_h0]; decide)).trans hf_152
                  refine tpk_pos (tp_in hG ht_h0 (by decide)) hf_162 (fun q163 eq163 => ?_)
                  refine va_get (D := (dC, dI)) (ci := 11) (v := .ref (ρ h0 0)) (C := RX11) (T := TX11) (N := 7) hx hb hts hfX11 hown hK hP q163 eq163 rfl 0 (by decide) (hts (.fieldLink RX11 10 "ColdShips" "world" "LColdShips$World;") wa_15) (fun _ h9 => h9) rfl dX11_cargo_208 ?_
                  have hf_164 : f160 (ρ h0 0) = .inr (10, [.int o20_x0, .int o20_x1, .int o20_x2, .int o20_x3, .int o20_x4, .int o20_x5, .int o20_x6, .ref (ρ (ρ h0 0) 7), .ref (ρ (ρ h0 0) 8), .ref (ρ (ρ h0 0) 9), .ref (ρ (ρ h0 0) 10), .ref (ρ (ρ h0 0) 11), .ref (ρ (ρ h0 0) 12), .ref (ρ (ρ h0 0) 13), .ref (ρ (ρ h0 0) 14), .ref (ρ (ρ h0 0) 15), .ref (ρ (ρ h0 0) 16), .ref (ρ (ρ h0 0) 17), .ref (ρ (ρ h0 0) 18)]) := (hF161 _ (by rw [tp_iu y1]; decide)).trans hf_154
                  refine tpk_pos (tp_in hG y1 (by decide)) hf_164 (fun q165 eq165 => ?_)
                  refine va_getN (D := (dC, dI)) (ci := 10) (v := .ref (ρ (ρ h0 0) 18)) (C := RX10) (T := TX10) (N := 19) hx hb hts hfX10 hown hK hP q165 eq165 rfl 18 (by decide) (va_Nw.use rfl (hN.1 (.fieldLinkNest RX11 319 "ColdShips$World" "cargoes" "LColdShips$Rows;" "ColdShips") nzw_87)) (fun _ h9 => h9) rfl dX11_cargo_211 ?_
                  refine lv_iload hx hb dX11_cargo_214 (lv_at hl 0 rfl) ?_
                  refine lv_bipush (v := 6) hx hb dX11_cargo_216 (by decide) ?_
                  refine lv_iload hx hb dX11_cargo_218 (lv_at hl 8 rfl) ?_
                  refine lv_i2l hx hb dX11_cargo_220 rfl ?_
                  have hf_166 : f160 (ρ (ρ h0 0) 18) = .inr (4, [.int o99_x0, .ref (ρ (ρ (ρ h0 0) 18) 1), .int o99_x2]) := (hF161 _ (by rw [tp_iu y19]; decide)).trans hf_156
                  refine tpk_pos (tp_in hG y19 (by decide)) hf_166 (fun q167 eq167 => ?_)
                  have hFc := tp_fr hD hS hA
                  refine va_callv (va_runV (As := [.int r95, .int 6, .long a7.toInt64]) (rest := []) ⟨hx, hb, hml, hown, hts⟩ (t_X4_set l dC dI _ Ω κ τ ν ρ L f160 hG hT (ρ (ρ h0 0) 18) r95 (6) a7.toInt64 y19 o99_x0 o99_x2 hf_166) (cwV 3 hts gX11_cargo_X4_set rfl rfl rfl ⟨rfl, pd_X4_set⟩ ⟨Nat.le_of_ble_eq_true rfl, Nat.le_of_ble_eq_true rfl⟩) ⟨pz_blind, va_recv hK hP (ci := 4) (q0 := q167) rfl eq167, pz_pre hP hK hD hN⟩ rfl rfl hl.1 rfl (lv_room (Nat.le_of_ble_eq_true rfl)) dX11_cargo_221 ⟨Nat.le_of_ble_eq_true rfl, Nat.le_of_ble_eq_true rfl⟩) hS (fun q _ h => hFc q h) hFc (fun f170 t H1 locs ht hvm hw169 hB hz1 hk1 hS => ?_)
                  refine tn_3 hw169 (fun hT hF171 hw169p => ?_); clear hw169
                  have hR := hR.then hF171 (by decide)
                  have hX := hX.fr hF171 (by decide)
                  have hP := hB.1; rw [ht] at hP; have hD := tp_ad f170 hD; clear hB hFc hz1 hk1; subst ht; generalize t.heap = H at hP hS ⊢
                  refine lv_aload_n hx hb dX11_cargo_224 rfl (lv_at hl 1 rfl) ?_
                  have hf_172 : f170 h0 = .inr (11, [.ref (ρ h0 0), .ref (ρ h0 1), .ref (ρ h0 2), .ref (ρ h0 3), .ref (ρ h0 4), .ref (ρ h0 5), .int o73_x6]) := (hF171 _ (by rw [ht_h0]; decide)).trans hf_162
                  refine tpk_pos (tp_in hG ht_h0 (by decide)) hf_172 (fun q173 eq173 => ?_)
                  refine va_get (D := (dC, dI)) (ci := 11) (v := .ref (ρ h0 0)) (C := RX11) (T := TX11) (N := 7) hx hb hts hfX11 hown hK hP q173 eq173 rfl 0 (by decide) (hts (.fieldLink RX11 10 "ColdShips" "world" "LColdShips$World;") wa_15) (fun _ h9 => h9) rfl dX11_cargo_225 ?_
                  have hf_174 : f170 (ρ h0 0) = .inr (10, [.int o20_x0, .int o20_x1, .int o20_x2, .int o20_x3, .int o20_x4, .int o20_x5, .int o20_x6, .ref (ρ (ρ h0 0) 7), .ref (ρ (ρ h0 0) 8), .ref (ρ (ρ h0 0) 9), .ref (ρ (ρ h0 0) 10), .ref (ρ (ρ h0 0) 11), .ref (ρ (ρ h0 0) 12), .ref (ρ (ρ h0 0) 13), .ref (ρ (ρ h0 0) 14), .ref (ρ (ρ h0 0) 15), .ref (ρ (ρ h0 0) 16), .ref (ρ (ρ h0 0) 17), .ref (ρ (ρ h0 0) 18)]) := (hF171 _ (by rw [tp_iu y1]; decide)).trans hf_164
                  refine tpk_pos (tp_in hG y1 (by decide)) hf_174 (fun q175 eq175 => ?_)
                  refine va_getN (D := (dC, dI)) (ci := 10) (v := .ref (ρ (ρ h0 0) 18)) (C := RX10) (T := TX10) (N := 19) hx hb hts hfX10 hown hK hP q175 eq175 rfl 18 (by decide) (va_Nw.use rfl (hN.1 (.fieldLinkNest RX11 319 "ColdShips$World" "cargoes" "LColdShips$Rows;" "ColdShips") nzw_87)) (fun _ h9 => h9) rfl dX11_cargo_228 ?_
                  refine lv_iload hx hb dX11_cargo_231 (lv_at hl 0 rfl) ?_
                  refine lv_bipush (v := 7) hx hb dX11_cargo_233 (by decide) ?_
                  refine lv_iload hx hb dX11_cargo_235 (lv_at hl 9 rfl) ?_
                  refine lv_i2l hx hb dX11_cargo_237 rfl ?_
                  have hf_176 : f170 (ρ (ρ h0 0) 18) = .inr (4, [.int o99_x0, .ref (ρ (ρ (ρ h0 0) 18) 1), .int o99_x2]) := (hF171 _ (by rw [tp_iu y19]; decide)).trans hf_166
                  refine tpk_pos (tp_in hG y19 (by decide)) hf_176 (fun q177 eq177 => ?_)
                  have hFc := tp_fr hD hS hA
                  refine va_callv (va_runV (As := [.int r95, .int 7, .long a8.toInt64]) (rest := []) ⟨hx, hb, hml, hown, hts⟩ (t_X4_set l dC dI _ Ω κ τ ν ρ L f170 hG hT (ρ (ρ h0 0) 18) r95 (7) a8.toInt64 y19 o99_x0 o99_x2 hf_176) (cwV 3 hts gX11_cargo_X4_set rfl rfl rfl ⟨rfl, pd_X4_set⟩ ⟨Nat.le_of_ble_eq_true rfl, Nat.le_of_ble_eq_true rfl⟩) ⟨pz_blind, va_recv hK hP (ci := 4) (q0 := q177) rfl eq177, pz_pre hP hK hD hN⟩ rfl rfl hl.1 rfl (lv_room (Nat.le_of_ble_eq_true rfl)) dX11_cargo_238 ⟨Nat.le_of_ble_eq_true rfl, Nat.le_of_ble_eq_true rfl⟩) hS (fun q _ h => hFc q h) hFc (fun f180 t H1 locs ht hvm hw179 hB hz1 hk1 hS => ?_)
                  refine tn_3 hw179 (fun hT hF181 hw179p => ?_); clear hw179
                  have hR := hR.then hF181 (by decide)
                  have hX := hX.fr hF181 (by decide)
                  have hP := hB.1; rw [ht] at hP; have hD := tp_ad f180 hD; clear hB hFc hz1 hk1; subst ht; generalize t.heap = H at hP hS ⊢
                  refine lv_aload_n hx hb dX11_cargo_241 rfl (lv_at hl 1 rfl) ?_
                  refine lv_aload_n hx hb dX11_cargo_242 rfl (lv_at hl 1 rfl) ?_
                  have hf_182 : f180 h0 = .inr (11, [.ref (ρ h0 0), .ref (ρ h0 1), .ref (ρ h0 2), .ref (ρ h0 3), .ref (ρ h0 4), .ref (ρ h0 5), .int o73_x6]) := (hF181 _ (by rw [ht_h0]; decide)).trans hf_172
                  refine tpk_pos (tp_in hG ht_h0 (by decide)) hf_182 (fun q183 eq183 => ?_)
                  refine va_get (D := (dC, dI)) (ci := 11) (v := .ref (ρ h0 0)) (C := RX11) (T := TX11) (N := 7) hx hb hts hfX11 hown hK hP q183 eq183 rfl 0 (by decide) (hts (.fieldLink RX11 10 "ColdShips" "world" "LColdShips$World;") wa_15) (fun _ h9 => h9) rfl dX11_cargo_243 ?_
                  have hf_184 : f180 (ρ h0 0) = .inr (10, [.int o20_x0, .int o20_x1, .int o20_x2, .int o20_x3, .int o20_x4, .int o20_x5, .int o20_x6, .ref (ρ (ρ h0 0) 7), .ref (ρ (ρ h0 0) 8), .ref (ρ (ρ h0 0) 9), .ref (ρ (ρ h0 0) 10), .ref (ρ (ρ h0 0) 11), .ref (ρ (ρ h0 0) 12), .ref (ρ (ρ h0 0) 13), .ref (ρ (ρ h0 0) 14), .ref (ρ (ρ h0 0) 15), .ref (ρ (ρ h0 0) 16), .ref (ρ (ρ h0 0) 17), .ref (ρ (ρ h0 0) 18)]) := (hF181 _ (by rw [tp_iu y1]; decide)).trans hf_174
                  refine tpk_pos (tp_in hG y1 (by decide)) hf_184 (fun q185 eq185 => ?_)
                  refine va_getN (D := (dC, dI)) (ci := 10) (v := .ref (ρ (ρ h0 0) 18)) (C := RX10) (T := TX10) (N := 19) hx hb hts hfX10 hown hK hP q185 eq185 rfl 18 (by decide) (va_Nw.use rfl (hN.1 (.fieldLinkNest RX11 319 "ColdShips$World" "cargoes" "LColdShips$Rows;" "ColdShips") nzw_87)) (fun _ h9 => h9) rfl dX11_cargo_246 ?_
                  have hf_186 : f180 (ρ (ρ h0 0) 18) = .inr (4, [.int o99_x0, .ref (ρ (ρ (ρ h0 0) 18) 1), .int o99_x2]) := (hF181 _ (by rw [tp_iu y19]; decide)).trans hf_176
                  refine tpk_pos (tp_in hG y19 (by decide)) hf_186 (fun q187 eq187 => ?_)
                  refine va_getN (D := (dC, dI)) (ci := 4) (v := .int o99_x2) (C := RX4) (T := TX4) (N := 3) hx hb hts hfX4 hown hK hP q187 eq187 rfl 2 (by decide) (va_Nw.use rfl (hN.1 (.fieldLinkNest RX11 242 "ColdShips$Rows" "size" "I" "ColdShips") nzw_4)) (fun _ h9 => h9) rfl dX11_cargo_249 ?_
                  have hFc := tp_fr hD hS hA
                  refine va_calli (va_runV (As := [.int o99_x2]) (rest := []) ⟨hx, hb, hml, hown, hts⟩ (t_X11_accept l dC dI _ Ω κ τ ν ρ L f180 hG hT h0 o99_x2 ht_h0) (cwV 1 hts gX11_cargo_X11_accept rfl rfl rfl ⟨rfl, pd_X11_accept⟩ ⟨Nat.le_of_ble_eq_true rfl, Nat.le_of_ble_eq_true rfl⟩) ⟨pz_blind, va_recv hK hP (ci := 11) (q0 := q183) rfl eq183, pz_pre hP hK hD hN⟩ rfl rfl hl.1 rfl (lv_room (Nat.le_of_ble_eq_true rfl)) dX11_cargo_252 ⟨Nat.le_of_ble_eq_true rfl, Nat.le_of_ble_eq_true rfl⟩) hS (fun q _ h => hFc q h) hFc (fun r188 f190 t H1 locs ht hvm hw189 hB hz1 hk1 hS => ?_)
                  refine tn_4 hw189 (fun hT hF191 hw189r hw189p => ?_); clear hw189
                  have hR := hR.then hF191 (by decide)
                  have hX := hX.fr hF191 (by decide)
                  have hP := hB.1; rw [ht] at hP; have hD := tp_ad f190 hD; clear hB hFc hz1 hk1; subst ht; generalize t.heap = H at hP hS ⊢
                  have hw189pq : r188.toInt = o99_x2.toInt := by rw [hw189p]
                  have tv192 : tp_fld (f (ρ h0 0)) 4 = o20_x4.toInt := by rw [hf_o20]; rfl
                  have tv193 : tp_fld (f (ρ (ρ h0 0) 18)) 2 = o23_x2.toInt := by rw [hf_o23]; rfl
                  have hf_194 : f190 (ρ (ρ h0 0) 18) = .inr (4, [.int o99_x0, .ref (ρ (ρ (ρ h0 0) 18) 1), .int o99_x2]) := (hF191 _ (by rw [tp_iu y19]; decide)).trans hf_186
                  have tv195 : tp_fld (f190 (ρ (ρ h0 0) 18)) 2 = o99_x2.toInt := by rw [hf_194]; rfl
                  exact W.iret (v := r188) hx hb hr (fun t ht hW => ⟨⟨r188, f190, rfl, ⟨hT, hR, trivial, ⟨hX, (by rw [tv192, tv193, tv195]; exact ⟨⟨fun q0 => by omega, fun q0 => ⟨fun q1 => by omega, fun q1 => ⟨fun q2 => by omega, fun q2 => ⟨fun q3 => by omega, fun q3 => (by omega)⟩⟩⟩⟩, ⟨fun q0 => by omega, fun q0 => ⟨fun q1 => by omega, fun q1 => ⟨fun q2 => by omega, fun q2 => ⟨fun q3 => by omega, fun q3 => (by omega)⟩⟩⟩⟩⟩)⟩⟩, by rw [ht]; exact hP, va_K.moved hW.alike hK, hD⟩, hS.F ht⟩) hS.2.2 dX11_cargo_255
                · have ic102 : r95.toInt = (-1) := zi_nef rfl rfl c102
                  refine lv_aload_n hx hb dX11_cargo_107 rfl (lv_at hl 1 rfl) ?_
                  refine lv_bipush (v := (-5)) hx hb dX11_cargo_108 (by decide) ?_
                  have hf_196 : f97 h0 = .inr (11, [.ref (ρ h0 0), .ref (ρ h0 1), .ref (ρ h0 2), .ref (ρ h0 3), .ref (ρ h0 4), .ref (ρ h0 5), .int o73_x6]) := (hF98 _ (by rw [ht_h0]; decide)).trans hf_o73
                  refine tpk_pos (tp_in hG ht_h0 (by decide)) hf_196 (fun q197 eq197 => ?_)
                  have hFc := tp_fr hD hS hA
                  refine va_calli (va_runV (As := [.int (-5)]) (rest := []) ⟨hx, hb, hml, hown, hts⟩ (t_X11_refuse l dC dI _ Ω κ τ ν ρ L f97 hG hT h0 ((-5)) ht_h0) (cwV 1 hts gX11_cargo_X11_refuse rfl rfl rfl ⟨rfl, pd_X11_refuse⟩ ⟨Nat.le_of_ble_eq_true rfl, Nat.le_of_ble_eq_true rfl⟩) ⟨pz_blind, va_recv hK hP (ci := 11) (q0 := q197) rfl eq197, pz_pre hP hK hD hN⟩ rfl rfl hl.1 rfl (lv_room (Nat.le_of_ble_eq_true rfl)) dX11_cargo_110 ⟨Nat.le_of_ble_eq_true rfl, Nat.le_of_ble_eq_true rfl⟩) hS (fun q _ h => hFc q h) hFc (fun r198 f200 t H1 locs ht hvm hw199 hB hz1 hk1 hS => ?_)
                  refine tn_4 hw199 (fun hT hF201 hw199r hw199p => ?_); clear hw199
                  have hR := hR.then hF201 (by decide)
                  have hX := hX.fr hF201 (by decide)
                  have hP := hB.1; rw [ht] at hP; have hD := tp_ad f200 hD; clear hB hFc hz1 hk1; subst ht; generalize t.heap = H at hP hS ⊢
                  have hw199pq : r198.toInt = (-5) := by rw [hw199p]; rfl
                  have tv202 : tp_fld (f (ρ h0 0)) 4 = o20_x4.toInt := by rw [hf_o20]; rfl
                  have tv203 : tp_fld (f (ρ (ρ h0 0) 18)) 2 = o23_x2.toInt := by rw [hf_o23]; rfl
                  have hf_204 : f200 (ρ (ρ h0 0) 18) = .inr (4, [.int o99_x0, .ref (ρ (ρ (ρ h0 0) 18) 1), .int o99_x2]) := (hF201 _ (by rw [tp_iu y19]; decide)).trans hf_o99
                  have tv205 : tp_fld (f200 (ρ (ρ h0 0) 18)) 2 = o99_x2.toInt := by rw [hf_204]; rfl
                  exact W.iret (v := r198) hx hb hr (fun t ht hW => ⟨⟨r198, f200, rfl, ⟨hT, hR, trivial, ⟨hX, (by rw [tv202, tv203, tv205]; exact ⟨⟨fun q0 => by omega, fun q0 => ⟨fun q1 => by omega, fun q1 => ⟨fun q2 => by omega, fun q2 => ⟨fun q3 => by omega, fun q3 => (by omega)⟩⟩⟩⟩, ⟨fun q0 => by omega, fun q0 => ⟨fun q1 => by omega, fun q1 => ⟨fun q2 => by omega, fun q2 => ⟨fun q3 => by omega, fun q3 => (by omega)⟩⟩⟩⟩⟩)⟩⟩, by rw [ht]; exact hP, va_K.moved hW.alike hK, hD⟩, hS.F ht⟩) hS.2.2 dX11_cargo_113
              · have ic93 : v.toInt = u.toInt := zi_nef rfl rfl c93
                refine lv_aload_n hx hb dX11_cargo_82 rfl (lv_at hl 0 rfl) ?_
                refine lv_bipush (v := (-3)) hx hb dX11_cargo_83 (by decide) ?_
                have hFc := tp_fr hD hS hA
                refine va_calli (va_runV (As := [.int (-3)]) (rest := []) ⟨hx, hb, hml, hown, hts⟩ (t_X11_refuse l dC dI _ Ω κ τ ν ρ L f hG hT h0 ((-3)) ht_h0) (cwV 1 hts gX11_cargo_X11_refuse rfl rfl rfl ⟨rfl, pd_X11_refuse⟩ ⟨Nat.le_of_ble_eq_true rfl, Nat.le_of_ble_eq_true rfl⟩) ⟨pz_blind, va_recv hK hP (ci := 11) (q0 := q74) rfl eq74, pz_pre hP hK hD hN⟩ rfl rfl hl.1 rfl (lv_room (Nat.le_of_ble_eq_true rfl)) dX11_cargo_85 ⟨Nat.le_of_ble_eq_true rfl, Nat.le_of_ble_eq_true rfl⟩) hS (fun q _ h => hFc q h) hFc (fun r206 f208 t H1 locs ht hvm hw207 hB hz1 hk1 hS => ?_)
                refine tn_4 hw207 (fun hT hF209 hw207r hw207p => ?_); clear hw207
                have hR := hR.then hF209 (by decide)
                have hX := hX.fr hF209 (by decide)
                have hP := hB.1; rw [ht] at hP; have hD := tp_ad f208 hD; clear hB hFc hz1 hk1; subst ht; generalize t.heap = H at hP hS ⊢
                have hw207pq : r206.toInt = (-3) := by rw [hw207p]; rfl
                have tv210 : tp_fld (f (ρ h0 0)) 4 = o20_x4.toInt := by rw [hf_o20]; rfl
                have ro23_1 := tp_hu ro23_1
                have tv211 : tp_fld (f (ρ (ρ h0 0) 18)) 2 = o23_x2.toInt := by rw [hf_o23]; rfl
                have hf_212 : f208 (ρ (ρ h0 0) 18) = .inr (4, [.int o23_x0, .ref (ρ (ρ (ρ h0 0) 18) 1), .int o23_x2]) := (hF209 _ (by rw [tp_iu y19]; decide)).trans hf_o23
                have tv213 : tp_fld (f208 (ρ (ρ h0 0) 18)) 2 = o23_x2.toInt := by rw [hf_212]; rfl
                exact W.iret (v := r206) hx hb hr (fun t ht hW => ⟨⟨r206, f208, rfl, ⟨hT, hR, trivial, ⟨hX, (by rw [tv210, tv211, tv213]; exact ⟨⟨fun q0 => by omega, fun q0 => ⟨fun q1 => by omega, fun q1 => ⟨fun q2 => by omega, fun q2 => ⟨fun q3 => by omega, fun q3 => (by omega)⟩⟩⟩⟩, ⟨fun q0 => by omega, fun q0 => ⟨fun q1 => by omega, fun q1 => ⟨fun q2 => by omega, fun q2 => ⟨fun q3 => by omega, fun q3 => (by omega)⟩⟩⟩⟩⟩)⟩⟩, by rw [ht]; exact hP, va_K.moved hW.alike hK, hD⟩, hS.F ht⟩) hS.2.2 dX11_cargo_88
            · have ic91 : r89.toInt = 0 := zi_nef rfl rfl c91
              have p214 : ¬ (0 ≤ u.toInt ∧ u.toInt < o20_x4.toInt) := (tp_cond.no hw90p) (by omega)
              clear hw90r ic91
              refine lv_aload_n hx hb dX11_cargo_70 rfl (lv_at hl 0 rfl) ?_
              refine lv_bipush (v := (-2)) hx hb dX11_cargo_71 (by decide) ?_
              have hFc := tp_fr hD hS hA
              refine va_calli (va_runV (As := [.int (-2)]) (rest := []) ⟨hx, hb, hml, hown, hts⟩ (t_X11_refuse l dC dI _ Ω κ τ ν ρ L f hG hT h0 ((-2)) ht_h0) (cwV 1 hts gX11_cargo_X11_refuse rfl rfl rfl ⟨rfl, pd_X11_refuse⟩ ⟨Nat.le_of_ble_eq_true rfl, Nat.le_of_ble_eq_true rfl⟩) ⟨pz_blind, va_recv hK hP (ci := 11) (q0 := q74) rfl eq74, pz_pre hP hK hD hN⟩ rfl rfl hl.1 rfl (lv_room (Nat.le_of_ble_eq_true rfl)) dX11_cargo_73 ⟨Nat.le_of_ble_eq_true rfl, Nat.le_of_ble_eq_true rfl⟩) hS (fun q _ h => hFc q h) hFc (fun r215 f217 t H1 locs ht hvm hw216 hB hz1 hk1 hS => ?_)
              refine tn_4 hw216 (fun hT hF218 hw216r hw216p => ?_); clear hw216
              have hR := hR.then hF218 (by decide)
              have hX := hX.fr hF218 (by decide)
              have hP := hB.1; rw [ht] at hP; have hD := tp_ad f217 hD; clear hB hFc hz1 hk1; subst ht; generalize t.heap = H at hP hS ⊢
              have hw216pq : r215.toInt = (-2) := by rw [hw216p]; rfl
              have tv219 : tp_fld (f (ρ h0 0)) 4 = o20_x4.toInt := by rw [hf_o20]; rfl
              have ro23_1 := tp_hu ro23_1
              have tv220 : tp_fld (f (ρ (ρ h0 0) 18)) 2 = o23_x2.toInt := by rw [hf_o23]; rfl
              have hf_221 : f217 (ρ (ρ h0 0) 18) = .inr (4, [.int o23_x0, .ref (ρ (ρ (ρ h0 0) 18) 1), .int o23_x2]) := (hF218 _ (by rw [tp_iu y19]; decide)).trans hf_o23
              have tv222 : tp_fld (f217 (ρ (ρ h0 0) 18)) 2 = o23_x2.toInt := by rw [hf_221]; rfl
              exact W.iret (v := r215) hx hb hr (fun t ht hW => ⟨⟨r215, f217, rfl, ⟨hT, hR, trivial, ⟨hX, (by rw [tv219, tv220, tv222]; exact ⟨⟨fun q0 => by omega, fun q0 => ⟨fun q1 => by omega, fun q1 => ⟨fun q2 => by omega, fun q2 => ⟨fun q3 => by omega, fun q3 => (by omega)⟩⟩⟩⟩, ⟨fun q0 => by omega, fun q0 => ⟨fun q1 => by omega, fun q1 => ⟨fun q2 => by omega, fun q2 => ⟨fun q3 => by omega, fun q3 => (by omega)⟩⟩⟩⟩⟩)⟩⟩, by rw [ht]; exact hP, va_K.moved hW.alike hK, hD⟩, hS.F ht⟩) hS.2.2 dX11_cargo_76
        · have ic71 : r69.toInt = 0 := zi_nef rfl rfl c71
          have p223 : ¬ ((0) ≤ (a8.toInt) ∧ (a8.toInt) ≤ (1000)) := (tp_cond.no hw70p) (by omega)
          clear hw70r ic71
          refine lv_aload_n hx hb dX11_cargo_42 rfl (lv_at hl 0 rfl) ?_
          refine lv_iconst (v := (-1)) hx hb dX11_cargo_43 (by decide) ?_
          refine tpk_12 hT ht_h0 (fun o224_x6 hf_o224 => ?_)
          refine tpk_pos (tp_in hG ht_h0 (by decide)) hf_o224 (fun q225 eq225 => ?_)
          have hFc := tp_fr hD hS hA
          refine va_calli (va_runV (As := [.int (-1)]) (rest := []) ⟨hx, hb, hml, hown, hts⟩ (t_X11_refuse l dC dI _ Ω κ τ ν ρ L f hG hT h0 ((-1)) ht_h0) (cwV 1 hts gX11_cargo_X11_refuse rfl rfl rfl ⟨rfl, pd_X11_refuse⟩ ⟨Nat.le_of_ble_eq_true rfl, Nat.le_of_ble_eq_true rfl⟩) ⟨pz_blind, va_recv hK hP (ci := 11) (q0 := q225) rfl eq225, pz_pre hP hK hD hN⟩ rfl rfl hl.1 rfl (lv_room (Nat.le_of_ble_eq_true rfl)) dX11_cargo_44 ⟨Nat.le_of_ble_eq_true rfl, Nat.le_of_ble_eq_true rfl⟩) hS (fun q _ h => hFc q h) hFc (fun r226 f228 t H1 locs ht hvm hw227 hB hz1 hk1 hS => ?_)
          refine tn_4 hw227 (fun hT hF229 hw227r hw227p => ?_); clear hw227
          have hR := hR.then hF229 (by decide)
          have hX := hX.fr hF229 (by decide)
          have hP := hB.1; rw [ht] at hP; have hD := tp_ad f228 hD; clear hB hFc hz1 hk1; subst ht; generalize t.heap = H at hP hS ⊢
          have hw227pq : r226.toInt = (-1) := by rw [hw227p]; rfl
          have ro20_1 := tp_hu ro20_1
          have tv230 : tp_fld (f (ρ h0 0)) 4 = o20_x4.toInt := by rw [hf_o20]; rfl
          have ro23_1 := tp_hu ro23_1
          have tv231 : tp_fld (f (ρ (ρ h0 0) 18)) 2 = o23_x2.toInt := by rw [hf_o23]; rfl
          have hf_232 : f228 (ρ (ρ h0 0) 18) = .inr (4, [.int o23_x0, .ref (ρ (ρ (ρ h0 0) 18) 1), .int o23_x2]) := (hF229 _ (by rw [tp_iu y19]; decide)).trans hf_o23
          have tv233 : tp_fld (f228 (ρ (ρ h0 0) 18)) 2 = o23_x2.toInt := by rw [hf_232]; rfl
          exact W.iret (v := r226) hx hb hr (fun t ht hW => ⟨⟨r226, f228, rfl, ⟨hT, hR, trivial, ⟨hX, (by rw [tv230, tv231, tv233]; exact ⟨⟨fun q0 => by omega, fun q0 => ⟨fun q1 => by omega, fun q1 => ⟨fun q2 => by omega, fun q2 => ⟨fun q3 => by omega, fun q3 => (by omega)⟩⟩⟩⟩, ⟨fun q0 => by omega, fun q0 => ⟨fun q1 => by omega, fun q1 => ⟨fun q2 => by omega, fun q2 => ⟨fun q3 => by omega, fun q3 => (by omega)⟩⟩⟩⟩⟩)⟩⟩, by rw [ht]; exact hP, va_K.moved hW.alike hK, hD⟩, hS.F ht⟩) hS.2.2 dX11_cargo_47
set_option maxHeartbeats 4000000 in
set_option maxRecDepth 100000 in
theorem t_X11_clear (l : Launch) (dC : Nat → ClassId) (dI : Nat → Nat → Nat) (sz : Nat) (Ω : Nat → Nat → (Nat → Nat) → va_E → Prop) (κ : Nat → ClassId) (τ ν : Nat → Nat) (ρ : Nat → Nat → Nat) (L : List Nat) (f : Nat → va_E) (hG : tp_G τ ν ρ L) (hT : tp_T Ω κ τ ν ρ f) (h0 : Nat) (ht_h0 : τ h0 = 12) : Met l yX11_clear wqX11_clear ({ frames := 2, cells := 0, slots := 0, locals := 400 }) (va_Pc [.ref h0] (pz_B dC dI (tp_K κ) (va_pl L f) sz)) (va_Qi (fun (r : Int32) (f1 : Nat → va_E) => tp_T Ω κ τ ν ρ f1 ∧ tp_F τ [5] f f1 ∧ True ∧ tp_X τ ρ (fun n => n = 18) f f1 ∧ (r.toInt = (tp_fld (f (ρ (ρ h0 0) 18)) 2)) ∧ ((tp_fld (f1 (ρ (ρ h0 0) 18)) 2) = 0)) (fun (f1 : Nat → va_E) (t : State) => pz_E dC dI (tp_K κ) (va_A (va_pl L f) sz) (va_pl L f1) t) (va_A (va_pl L f) sz)) 0 0 (va_A (va_pl L f) sz) := by
  refine Met.ofW (cc := cX11_clear) (maxL := 2) (ret := some .int) (by decide) rfl ?_
  intro p e s m args below meth c s₁ B hml hv
  obtain ⟨rfl, hsz, hP, hK, hD0, hN⟩ := hv
  have hx := B.exec
  have hb := B.bytes
  have hr := B.returns
  have hts := fun (w : Cond) (h : w ∈ WALL) => atoms_spec (ws := wqX11_clear) B.pre w (List.mem_cons_of_mem _ h)
  have hown : s.vm.findClass RX11 = some m.cls := findClass_of_methodNamed B.named
  have hlocks := B.notSynchronized
  subst hsz
  have hD := hD0.self (sz := s.heap.size)
  generalize hAe : va_A (va_pl L f) s.heap.size = A at hD ⊢
  have hA : ∀ q : Nat, s.heap.size ≤ q → A q := fun q h => by rw [← hAe]; exact Or.inr h
  have hS : va_S A s.heap s.heap [] := va_S.rf
  have hR : tp_F τ [5] f f := tp_F.rf
  have hX : tp_X τ ρ (fun n => n = 18) f f := tp_X.rf
  have hl := lv_entry ([.ref h0]) (n := 2) (Nat.le_of_ble_eq_true rfl)
  rw [lg_entry_eq]
  generalize (lg_sl ([.ref h0]) ++ List.replicate (2 - (lg_sl ([.ref h0])).length) Slot.unset).toArray = ls at hl ⊢
  have hl : lv_has ls 2 [(0, .ref h0)] := hl
  refine tgk_12 hG ht_h0 (fun y1 y1l y2 y3 y4 y5 y6 y7a y7b y7c => ?_)
  refine tgk_11 hG y1 (fun y8 y8n y9 y9n y10 y11 y12 y13 y13m y13l y14 y14m y14l y15 y15m y15l y16 y16w y16m y16l y17 y17w y17m y17l y18 y18w y18m y18l y19 y19w y19m y19l => ?_)
  refine tgk_5 hG y19 (fun y20 y20n y21a y21b y21c => ?_)
  refine tpk_5 hT y19 (fun o22_x0 o22_x2 hf_o22 ro22_0 ro22_1 => ?_)
  refine lv_aload_n hx hb dX11_clear_0 rfl (lv_at hl 0 rfl) ?_
  refine tpk_12 hT ht_h0 (fun o23_x6 hf_o23 => ?_)
  refine tpk_pos (tp_in hG ht_h0 (by decide)) hf_o23 (fun q24 eq24 => ?_)
  refine va_get (D := (dC, dI)) (ci := 11) (v := .ref (ρ h0 0)) (C := RX11) (T := TX11) (N := 7) hx hb hts hfX11 hown hK hP q24 eq24 rfl 0 (by decide) (hts (.fieldLink RX11 10 "ColdShips" "world" "LColdShips$World;") wa_15) (fun _ h9 => h9) rfl dX11_clear_1 ?_
  refine tpk_11 hT y1 (fun o25_x0 o25_x1 o25_x2 o25_x3 o25_x4 o25_x5 o25_x6 hf_o25 ro25_0 ro25_1 ro25_2 ro25_3 => ?_)
  refine tpk_pos (tp_in hG y1 (by decide)) hf_o25 (fun q26 eq26 => ?_)
  refine va_getN (D := (dC, dI)) (ci := 10) (v := .ref (ρ (ρ h0 0) 18)) (C := RX10) (T := TX10) (N := 19) hx hb hts hfX10 hown hK hP q26 eq26 rfl 18 (by decide) (va_Nw.use rfl (hN.1 (.fieldLinkNest RX11 319 "ColdShips$World" "cargoes" "LColdShips$Rows;" "ColdShips") nzw_87)) (fun _ h9 => h9) rfl dX11_clear_4 ?_
  refine tpk_pos (tp_in hG y19 (by decide)) hf_o22 (fun q27 eq27 => ?_)
  have ro22_1 := tp_hu ro22_1
  refine va_getN (D := (dC, dI)) (ci := 4) (v := .int o22_x2) (C := RX4) (T := TX4) (N := 3) hx hb hts hfX4 hown hK hP q27 eq27 rfl 2 (by decide) (va_Nw.use rfl (hN.1 (.fieldLinkNest RX11 242 "ColdShips$Rows" "size" "I" "ColdShips") nzw_4)) (fun _ h9 => h9) rfl dX11_clear_7 ?_
  refine lv_istore_n (lv' := [(1, .int o22_x2), (0, .ref h0)]) hx hb dX11_clear_10 rfl hl (by decide) rfl (fun ls hl => ?_)
  refine lv_aload_n hx hb dX11_clear_11 rfl (lv_at hl 1 rfl) ?_
  refine va_get (D := (dC, dI)) (ci := 11) (v := .ref (ρ h0 0)) (C := RX11) (T := TX11) (N := 7) hx hb hts hfX11 hown hK hP q24 eq24 rfl 0 (by decide) (hts (.fieldLink RX11 10 "ColdShips" "world" "LColdShips$World;") wa_15) (fun _ h9 => h9) rfl dX11_clear_12 ?_
  refine va_getN (D := (dC, dI)) (ci := 10) (v := .ref (ρ (ρ h0 0) 18)) (C := RX10) (T := TX10) (N := 19) hx hb hts hfX10 hown hK hP q26 eq26 rfl 18 (by decide) (va_Nw.use rfl (hN.1 (.fieldLinkNest RX11 319 "ColdShips$World" "cargoes" "LColdShips$Rows;" "ColdShips") nzw_87)) (fun _ h9 => h9) rfl dX11_clear_15 ?_
  refine lv_iconst (v := 0) hx hb dX11_clear_18 (by decide) ?_
  refine va_putN (D := (dC, dI)) (ci := 4) (v := .int 0) (ty := .int) (C := RX4) (T := TX4) (N := 3) hx hb hts hfX4 tyX4 tyX4_ok nmX4 hown hK hP hD hS q27 eq27 rfl 2 (by decide) (va_Nw.use rfl (hN.1 (.fieldLinkNest RX11 242 "ColdShips$Rows" "size" "I" "ColdShips") nzw_4)) (fun _ h9 => h9) rfl (tyX4_ok 2 (by decide)) rfl rfl (Nat.le_of_ble_eq_true rfl) dX11_clear_19 (tp_k (.inr (4, [.int o22_x0, .ref (ρ (ρ (ρ h0 0) 18) 1), .int 0])) hD (tp_in hG y19 (by decide)) eq27 (fun f28 H locs hP hD hS g30 k29 => ?_))
  have hT := hT.up y19 g30 k29 ⟨_, _, rfl, ro22_0, (by first | decide | omega | (have : (0 : Int32).toInt = 0 := rfl; omega))⟩
  have hR := hR.up y19 (by decide) k29
  have hX := hX.up k29 (Or.inr (by show (ρ (ρ (ρ h0 0) 18) 30) = 18; omega))
  refine lv_iload_n hx hb dX11_clear_22 rfl (lv_at hl 0 rfl) ?_
  have tv31 : tp_fld (f (ρ (ρ h0 0) 18)) 2 = o22_x2.toInt := by rw [hf_o22]; rfl
  have tv32 : tp_fld (f28 (ρ (ρ h0 0) 18)) 2 = (0 : Int32).toInt := by rw [g30]; rfl
  have tv32l : (0 : Int32).toInt = 0 := rfl
  exact W.iret (v := o22_x2) hx hb hr (fun t ht hW => ⟨⟨o22_x2, f28, rfl, ⟨hT, hR, trivial, ⟨hX, (by rw [tv31, tv32]; exact ⟨(by omega), (by omega)⟩)⟩⟩, by rw [ht]; exact hP, va_K.moved hW.alike hK, hD⟩, hS.F ht⟩) hS.2.2 dX11_clear_23
set_option maxHeartbeats 4000000 in
set_option maxRecDepth 100000 in
theorem t_X11_best (l : Launch) (dC : Nat → ClassId) (dI : Nat → Nat → Nat) (sz : Nat) (Ω : Nat → Nat → (Nat → Nat) → va_E → Prop) (κ : Nat → ClassId) (τ ν : Nat → Nat) (ρ : Nat → Nat → Nat) (L : List Nat) (f : Nat → va_E) (hG : tp_G τ ν ρ L) (hT : tp_T Ω κ τ ν ρ f) (h0 : Nat) (v : Int32) (ht_h0 : τ h0 = 12) : Met l yX11_best wqX11_best ({ frames := 12, cells := 0, slots := 0, locals := 4400 }) (va_Pc [.ref h0, .int v] (pz_B dC dI (tp_K κ) (va_pl L f) sz)) (va_Ql (fun (r : Int64) (f1 : Nat → va_E) => tp_T Ω κ τ ν ρ f1 ∧ tp_F τ [2, 20, 21] f f1 ∧ True ∧ True) (fun (f1 : Nat → va_E) (t : State) => pz_E dC dI (tp_K κ) (va_A (va_pl L f) sz) (va_pl L f1) t) (va_A (va_pl L f) sz)) 0 0 (va_A (va_pl L f) sz) := by
  refine Met.ofW (cc := cX11_best) (maxL := 2) (ret := some .long) (by decide) rfl ?_
  intro p e s m args below meth c s₁ B hml hv
  obtain ⟨rfl, hsz, hP, hK, hD0, hN⟩ := hv
  have hx := B.exec
  have hb := B.bytes
  have hr := B.returns
  have hts := fun (w : Cond) (h : w ∈ WALL) => atoms_spec (ws := wqX11_best) B.pre w (List.mem_cons_of_mem _ h)
  have hown : s.vm.findClass RX11 = some m.cls := findClass_of_methodNamed B.named
  have hlocks := B.notSynchronized
  subst hsz
  have hD := hD0.self (sz := s.heap.size)
  generalize hAe : va_A (va_pl L f) s.heap.size = A at hD ⊢
  have hA : ∀ q : Nat, s.heap.size ≤ q → A q := fun q h => by rw [← hAe]; exact Or.inr h
  have hS : va_S A s.heap s.heap [] := va_S.rf
  have hR : tp_F τ [2, 20, 21] f f := tp_F.rf
  have hl := lv_entry ([.ref h0, .int v]) (n := 2) (Nat.le_of_ble_eq_true rfl)
  rw [lg_entry_eq]
  generalize (lg_sl ([.ref h0, .int v]) ++ List.replicate (2 - (lg_sl ([.ref h0, .int v])).length) Slot.unset).toArray = ls at hl ⊢
  have hl : lv_has ls 2 [(0, .ref h0), (1, .int v)] := hl
  refine lv_iload_n hx hb dX11_best_0 rfl (lv_at hl 1 rfl) ?_
  refine pz_calli (va_runS (As := [.int v]) (rest := []) ⟨hx, hb, hml, hown, hts⟩ (t_X11_isHour l dC dI _ v (v.toInt) rfl) (va_cwS 1 hts gX11_best_X11_isHour rfl rfl rfl pd_X11_isHour ⟨Nat.le_of_ble_eq_true rfl, Nat.le_of_ble_eq_true rfl⟩) ⟨pz_blind, pz_pre pz_P0 (hK.sub (tys' := []) [] rfl) (pz_D0 (A := fun _ => True)) hN⟩ rfl rfl hl.1 rfl (lv_room (Nat.le_of_ble_eq_true rfl)) dX11_best_1 ⟨Nat.le_of_ble_eq_true rfl, Nat.le_of_ble_eq_true rfl⟩) (fun r1 hw2 => ?_)
  obtain ⟨hw2r, hw2p⟩ := hw2
  refine lv_if_eq (tgt := 18) hx hb dX11_best_4 (by decide) (fun c3 => ?_) (fun c3 => ?_)
  · have ic3 : r1.toInt = 0 := zi_eq rfl rfl c3
    clear hw2r ic3
    refine lv_ldc2 (own := RX11) (v := (-1)) hx hb hown (hts (.constantLong RX11 198 (-1)) wa_660) dX11_best_18 ?_
    exact W.lret (v := (-1)) hx hb hr (fun t ht hW => ⟨⟨(-1), f, rfl, ⟨hT, hR, trivial, trivial⟩, by rw [ht]; exact hP, va_K.moved hW.alike hK, hD⟩, hS.F ht⟩) hS.2.2 dX11_best_21
  · have ic3 : r1.toInt ≠ 0 := zi_eqf rfl rfl c3
    have p4 : 0 ≤ (v.toInt) ∧ (v.toInt) ≤ 2399 := (tp_cond.yes hw2p) (by omega)
    clear hw2r ic3
    refine lv_aload_n hx hb dX11_best_7 rfl (lv_at hl 0 rfl) ?_
    refine tgk_12 hG ht_h0 (fun y5 y5l y6 y7 y8 y9 y10 y11a y11b y11c => ?_)
    refine tpk_12 hT ht_h0 (fun o12_x6 hf_o12 => ?_)
    refine tpk_pos (tp_in hG ht_h0 (by decide)) hf_o12 (fun q13 eq13 => ?_)
    refine va_get (D := (dC, dI)) (ci := 11) (v := .ref (ρ h0 5)) (C := RX11) (T := TX11) (N := 7) hx hb hts hfX11 hown hK hP q13 eq13 rfl 5 (by decide) (hts (.fieldLink RX11 46 "ColdShips" "planner" "LColdShips$Planner;") wa_32) (fun _ h9 => h9) rfl dX11_best_8 ?_
    refine lv_iload_n hx hb dX11_best_11 rfl (lv_at hl 1 rfl) ?_
    refine tgk_2 hG y10 (fun y14 y14l y15 y15n y16 y16n y17 y17n y18 y18n y19 y19n y20 y20n y21 y21n y22 y22n y23 y23n => ?_)
    refine tpk_2 hT y10 (fun o24_x5 o24_x6 o24_x7 o24_x8 o24_x9 hf_o24 ro24_0 => ?_)
    refine tpk_pos (tp_in hG y10 (by decide)) hf_o24 (fun q25 eq25 => ?_)
    have hFc := tp_fr hD hS hA
    refine va_calll (va_runV (As := [.int v]) (rest := []) ⟨hx, hb, hml, hown, hts⟩ (t_X1_findBest l dC dI _ Ω κ τ ν ρ L f hG hT (ρ h0 5) v y10) (cwV 1 hts gX11_best_X1_findBest rfl rfl rfl ⟨rfl, pd_X1_findBest⟩ ⟨Nat.le_of_ble_eq_true rfl, Nat.le_of_ble_eq_true rfl⟩) ⟨pz_blind, va_recv hK hP (ci := 1) (q0 := q25) rfl eq25, pz_pre hP hK hD hN⟩ rfl rfl hl.1 rfl (lv_room (Nat.le_of_ble_eq_true rfl)) dX11_best_12 ⟨Nat.le_of_ble_eq_true rfl, Nat.le_of_ble_eq_true rfl⟩) hS (fun q _ h => hFc q h) hFc (fun r26 f28 t H1 locs ht hvm hw27 hB hz1 hk1 hS => ?_)
    refine tn_4 hw27 (fun hT hF29 hw27r hw27p => ?_); clear hw27
    have hR := hR.then hF29 (by decide)
    have hP := hB.1; rw [ht] at hP; have hD := tp_ad f28 hD; clear hB hFc hz1 hk1; subst ht; generalize t.heap = H at hP hS ⊢
    refine lv_goto (tgt := 21) hx hb dX11_best_15 (by decide) ?_
    exact W.lret (v := r26) hx hb hr (fun t ht hW => ⟨⟨r26, f28, rfl, ⟨hT, hR, trivial, trivial⟩, by rw [ht]; exact hP, va_K.moved hW.alike hK, hD⟩, hS.F ht⟩) hS.2.2 dX11_best_21
set_option maxHeartbeats 4000000 in
set_option maxRecDepth 100000 in
theorem t_X11_voyage (l : Launch) (dC : Nat → ClassId) (dI : Nat → Nat → Nat) (sz : Nat) (Ω : Nat → Nat → (Nat → Nat) → va_E → Prop) (κ : Nat → ClassId) (τ ν : Nat → Nat) (ρ : Nat → Nat → Nat) (L : List Nat) (f : Nat → va_E) (hG : tp_G τ ν ρ L) (hT : tp_T Ω κ τ ν ρ f) (h0 : Nat) (v : Int32) (u : Int32) (ht_h0 : τ h0 = 12) : Met l yX11_voyage wqX11_voyage ({ frames := 3, cells := 0, slots := 0, locals := 800 }) (va_Pc [.ref h0, .int v, .int u] (pz_B dC dI (tp_K κ) (va_pl L f) sz)) (va_Ql (fun (r : Int64) (f1 : Nat → va_E) => tp_T Ω κ τ ν ρ f1 ∧ tp_F τ [] f f1 ∧ True ∧ True) (fun (f1 : Nat → va_E) (t : State) => pz_E dC dI (tp_K κ) (va_A (va_pl L f) sz) (va_pl L f1) t) (va_A (va_pl L f) sz)) 0 0 (va_A (va_pl L f) sz) := by
  refine Met.ofW (cc := cX11_voyage) (maxL := 3) (ret := some .long) (by decide) rfl ?_
  intro p e s m args below meth c s₁ B hml hv
  obtain ⟨rfl, hsz, hP, hK, hD0, hN⟩ := hv
  have hx := B.exec
  have hb := B.bytes
  have hr := B.returns
  have hts := fun (w : Cond) (h : w ∈ WALL) => atoms_spec (ws := wqX11_voyage) B.pre w (List.mem_cons_of_mem _ h)
  have hown : s.vm.findClass RX11 = some m.cls := findClass_of_methodNamed B.named
  have hlocks := B.notSynchronized
  subst hsz
  have hD := hD0.self (sz := s.heap.size)
  generalize hAe : va_A (va_pl L f) s.heap.size = A at hD ⊢
  have hA : ∀ q : Nat, s.heap.size ≤ q → A q := fun q h => by rw [← hAe]; exact Or.inr h
  have hS : va_S A s.heap s.heap [] := va_S.rf
  have hR : tp_F τ [] f f := tp_F.rf
  have hl := lv_entry ([.ref h0, .int v, .int u]) (n := 3) (Nat.le_of_ble_eq_true rfl)
  rw [lg_entry_eq]
  generalize (lg_sl ([.ref h0, .int v, .int u]) ++ List.replicate (3 - (lg_sl ([.ref h0, .int v, .int u])).length) Slot.unset).toArray = ls at hl ⊢
  have hl : lv_has ls 3 [(0, .ref h0), (1, .int v), (2, .int u)] := hl
  refine lv_iload_n hx hb dX11_voyage_0 rfl (lv_at hl 1 rfl) ?_
  refine lv_iconst (v := 0) hx hb dX11_voyage_1 (by decide) ?_
  refine lv_aload_n hx hb dX11_voyage_2 rfl (lv_at hl 0 rfl) ?_
  refine tgk_12 hG ht_h0 (fun y1 y1l y2 y3 y4 y5 y6 y7a y7b y7c => ?_)
  refine tpk_12 hT ht_h0 (fun o8_x6 hf_o8 => ?_)
  refine tpk_pos (tp_in hG ht_h0 (by decide)) hf_o8 (fun q9 eq9 => ?_)
  refine va_get (D := (dC, dI)) (ci := 11) (v := .ref (ρ h0 5)) (C := RX11) (T := TX11) (N := 7) hx hb hts hfX11 hown hK hP q9 eq9 rfl 5 (by decide) (hts (.fieldLink RX11 46 "ColdShips" "planner" "LColdShips$Planner;") wa_32) (fun _ h9 => h9) rfl dX11_voyage_3 ?_
  refine tgk_2 hG y6 (fun y10 y10l y11 y11n y12 y12n y13 y13n y14 y14n y15 y15n y16 y16n y17 y17n y18 y18n y19 y19n => ?_)
  refine tpk_2 hT y6 (fun o20_x5 o20_x6 o20_x7 o20_x8 o20_x9 hf_o20 ro20_0 => ?_)
  refine tpk_pos (tp_in hG y6 (by decide)) hf_o20 (fun q21 eq21 => ?_)
  have ro20_0 := tp_hu ro20_0
  refine va_getN (D := (dC, dI)) (ci := 1) (v := .int o20_x9) (C := RX1) (T := TX1) (N := 15) hx hb hts hfX1 hown hK hP q21 eq21 rfl 9 (by decide) (va_Nw.use rfl (hN.1 (.fieldLinkNest RX11 325 "ColdShips$Planner" "planned" "I" "ColdShips") nzw_93)) (fun _ h9 => h9) rfl dX11_voyage_6 ?_
  refine lv_iconst (v := 1) hx hb dX11_voyage_9 (by decide) ?_
  refine lv_isub hx hb dX11_voyage_10 ?_
  refine lv_topi (fun z22 ez22 => ?_)
  have iz22 : z22.toInt = o20_x9.toInt - 1 := zi_sub ez22 rfl rfl (by omega) (by omega)
  refine pz_calli (va_runS (As := [.int v, .int 0, .int z22]) (rest := []) ⟨hx, hb, hml, hown, hts⟩ (t_X11_within l dC dI _ v (0) z22 (v.toInt) (0) (z22.toInt) rfl rfl rfl) (va_cwS 3 hts gX11_voyage_X11_within rfl rfl rfl pd_X11_within ⟨Nat.le_of_ble_eq_true rfl, Nat.le_of_ble_eq_true rfl⟩) ⟨pz_blind, pz_pre pz_P0 (hK.sub (tys' := []) [] rfl) (pz_D0 (A := fun _ => True)) hN⟩ rfl rfl hl.1 rfl (lv_room (Nat.le_of_ble_eq_true rfl)) dX11_voyage_11 ⟨Nat.le_of_ble_eq_true rfl, Nat.le_of_ble_eq_true rfl⟩) (fun r23 hw24 => ?_)
  obtain ⟨hw24r, hw24p⟩ := hw24
  refine lv_if_ne (tgt := 21) hx hb dX11_voyage_14 (by decide) (fun c25 => ?_) (fun c25 => ?_)
  · have ic25 : r23.toInt ≠ 0 := zi_ne rfl rfl c25
    have p26 : (0) ≤ (v.toInt) ∧ (v.toInt) ≤ (z22.toInt) := (tp_cond.yes hw24p) (by omega)
    clear hw24r ic25
    refine lv_iload_n hx hb dX11_voyage_21 rfl (lv_at hl 2 rfl) ?_
    refine lv_if_ne (tgt := 36) hx hb dX11_voyage_22 (by decide) (fun c27 => ?_) (fun c27 => ?_)
    · have ic27 : u.toInt ≠ 0 := zi_ne rfl rfl c27
      refine lv_aload_n hx hb dX11_voyage_36 rfl (lv_at hl 0 rfl) ?_
      refine va_get (D := (dC, dI)) (ci := 11) (v := .ref (ρ h0 5)) (C := RX11) (T := TX11) (N := 7) hx hb hts hfX11 hown hK hP q9 eq9 rfl 5 (by decide) (hts (.fieldLink RX11 46 "ColdShips" "planner" "LColdShips$Planner;") wa_32) (fun _ h9 => h9) rfl dX11_voyage_37 ?_
      refine va_getN (D := (dC, dI)) (ci := 1) (v := .ref (ρ (ρ h0 5) 10)) (C := RX1) (T := TX1) (N := 15) hx hb hts hfX1 hown hK hP q21 eq21 rfl 10 (by decide) (va_Nw.use rfl (hN.1 (.fieldLinkNest RX11 328 "ColdShips$Planner" "shipOf" "[I" "ColdShips") nzw_94)) (fun _ h9 => h9) rfl dX11_voyage_40 ?_
      refine lv_iload_n hx hb dX11_voyage_43 rfl (lv_at hl 1 rfl) ?_
      refine tpk_20 hT y15 y15n (fun g29 hf_o28 => ?_)
      refine tpk_pos (tp_in hG y15 (by decide)) hf_o28 (fun q30 eq30 => ?_)
      refine va_iald hx hb hK hP q30 0 eq30 rfl (vp_in_iff.mpr ⟨by omega, by omega⟩) dX11_voyage_44 ?_
      refine lv_topi (fun z31 ez31 => ?_)
      refine lv_iconst (v := (-1)) hx hb dX11_voyage_45 (by decide) ?_
      refine lv_icmp_ne (tgt := 53) hx hb dX11_voyage_46 (by decide) (fun c32 => ?_) (fun c32 => ?_)
      · have ic32 : z31.toInt ≠ (-1) := zi_ne rfl rfl c32
        refine lv_iload_n hx hb dX11_voyage_53 rfl (lv_at hl 2 rfl) ?_
        rcases zi_sw u 1 4 with h33 | h33
        · refine lv_tableOut (tgt := 127) hx hb dX11_voyage_54 h33 (by decide) ?_
          refine lv_ldc2 (own := RX11) (v := (-2000000000000000)) hx hb hown (hts (.constantLong RX11 281 (-2000000000000000)) wa_1124) dX11_voyage_127 ?_
          exact W.lret (v := (-2000000000000000)) hx hb hr (fun t ht hW => ⟨⟨(-2000000000000000), f, rfl, ⟨hT, hR, trivial, trivial⟩, by rw [ht]; exact hP, va_K.moved hW.alike hK, hD⟩, hS.F ht⟩) hS.2.2 dX11_voyage_130
        · rcases (show u.toInt = 1 ∨ u.toInt = 2 ∨ u.toInt = 3 ∨ u.toInt = 4 by omega) with h33k | h33k | h33k | h33k
          · refine lv_tableIn (tgt := 84) hx hb dX11_voyage_54 (by omega) (by omega) (by rw [h33k]; rfl) (by decide) ?_
            refine lv_aload_n hx hb dX11_voyage_84 rfl (lv_at hl 0 rfl) ?_
            refine va_get (D := (dC, dI)) (ci := 11) (v := .ref (ρ h0 5)) (C := RX11) (T := TX11) (N := 7) hx hb hts hfX11 hown hK hP q9 eq9 rfl 5 (by decide) (hts (.fieldLink RX11 46 "ColdShips" "planner" "LColdShips$Planner;") wa_32) (fun _ h9 => h9) rfl dX11_voyage_85 ?_
            refine va_getN (D := (dC, dI)) (ci := 1) (v := .ref (ρ (ρ h0 5) 11)) (C := RX1) (T := TX1) (N := 15) hx hb hts hfX1 hown hK hP q21 eq21 rfl 11 (by decide) (va_Nw.use rfl (hN.1 (.fieldLinkNest RX11 331 "ColdShips$Planner" "placeOf" "[I" "ColdShips") nzw_95)) (fun _ h9 => h9) rfl dX11_voyage_88 ?_
            refine lv_iload_n hx hb dX11_voyage_91 rfl (lv_at hl 1 rfl) ?_
            refine tpk_20 hT y16 y16n (fun g35 hf_o34 => ?_)
            refine tpk_pos (tp_in hG y16 (by decide)) hf_o34 (fun q36 eq36 => ?_)
            refine va_iald hx hb hK hP q36 0 eq36 rfl (vp_in_iff.mpr ⟨by omega, by omega⟩) dX11_voyage_92 ?_
            refine lv_topi (fun z37 ez37 => ?_)
            refine lv_i2l hx hb dX11_voyage_93 rfl ?_
            exact W.lret (v := z37.toInt64) hx hb hr (fun t ht hW => ⟨⟨z37.toInt64, f, rfl, ⟨hT, hR, trivial, trivial⟩, by rw [ht]; exact hP, va_K.moved hW.alike hK, hD⟩, hS.F ht⟩) hS.2.2 dX11_voyage_94
          · refine lv_tableIn (tgt := 95) hx hb dX11_voyage_54 (by omega) (by omega) (by rw [h33k]; rfl) (by decide) ?_
            refine lv_aload_n hx hb dX11_voyage_95 rfl (lv_at hl 0 rfl) ?_
            refine va_get (D := (dC, dI)) (ci := 11) (v := .ref (ρ h0 5)) (C := RX11) (T := TX11) (N := 7) hx hb hts hfX11 hown hK hP q9 eq9 rfl 5 (by decide) (hts (.fieldLink RX11 46 "ColdShips" "planner" "LColdShips$Planner;") wa_32) (fun _ h9 => h9) rfl dX11_voyage_96 ?_
            refine va_getN (D := (dC, dI)) (ci := 1) (v := .ref (ρ (ρ h0 5) 12)) (C := RX1) (T := TX1) (N := 15) hx hb hts hfX1 hown hK hP q21 eq21 rfl 12 (by decide) (va_Nw.use rfl (hN.1 (.fieldLinkNest RX11 334 "ColdShips$Planner" "loadOf" "[I" "ColdShips") nzw_96)) (fun _ h9 => h9) rfl dX11_voyage_99 ?_
            refine lv_iload_n hx hb dX11_voyage_102 rfl (lv_at hl 1 rfl) ?_
            refine tpk_20 hT y17 y17n (fun g39 hf_o38 => ?_)
            refine tpk_pos (tp_in hG y17 (by decide)) hf_o38 (fun q40 eq40 => ?_)
            refine va_iald hx hb hK hP q40 0 eq40 rfl (vp_in_iff.mpr ⟨by omega, by omega⟩) dX11_voyage_103 ?_
            refine lv_topi (fun z41 ez41 => ?_)
            refine lv_i2l hx hb dX11_voyage_104 rfl ?_
            exact W.lret (v := z41.toInt64) hx hb hr (fun t ht hW => ⟨⟨z41.toInt64, f, rfl, ⟨hT, hR, trivial, trivial⟩, by rw [ht]; exact hP, va_K.moved hW.alike hK, hD⟩, hS.F ht⟩) hS.2.2 dX11_voyage_105
          · refine lv_tableIn (tgt := 106) hx hb dX11_voyage_54 (by omega) (by omega) (by rw [h33k]; rfl) (by decide) ?_
            refine lv_aload_n hx hb dX11_voyage_106 rfl (lv_at hl 0 rfl) ?_
            refine va_get (D := (dC, dI)) (ci := 11) (v := .ref (ρ h0 5)) (C := RX11) (T := TX11) (N := 7) hx hb hts hfX11 hown hK hP q9 eq9 rfl 5 (by decide) (hts (.fieldLink RX11 46 "ColdShips" "planner" "LColdShips$Planner;") wa_32) (fun _ h9 => h9) rfl dX11_voyage_107 ?_
            refine va_getN (D := (dC, dI)) (ci := 1) (v := .ref (ρ (ρ h0 5) 13)) (C := RX1) (T := TX1) (N := 15) hx hb hts hfX1 hown hK hP q21 eq21 rfl 13 (by decide) (va_Nw.use rfl (hN.1 (.fieldLinkNest RX11 337 "ColdShips$Planner" "landOf" "[I" "ColdShips") nzw_97)) (fun _ h9 => h9) rfl dX11_voyage_110 ?_
            refine lv_iload_n hx hb dX11_voyage_113 rfl (lv_at hl 1 rfl) ?_
            refine tpk_20 hT y18 y18n (fun g43 hf_o42 => ?_)
            refine tpk_pos (tp_in hG y18 (by decide)) hf_o42 (fun q44 eq44 => ?_)
            refine va_iald hx hb hK hP q44 0 eq44 rfl (vp_in_iff.mpr ⟨by omega, by omega⟩) dX11_voyage_114 ?_
            refine lv_topi (fun z45 ez45 => ?_)
            refine lv_i2l hx hb dX11_voyage_115 rfl ?_
            exact W.lret (v := z45.toInt64) hx hb hr (fun t ht hW => ⟨⟨z45.toInt64, f, rfl, ⟨hT, hR, trivial, trivial⟩, by rw [ht]; exact hP, va_K.moved hW.alike hK, hD⟩, hS.F ht⟩) hS.2.2 dX11_voyage_116
          · refine lv_tableIn (tgt := 117) hx hb dX11_voyage_54 (by omega) (by omega) (by rw [h33k]; rfl) (by decide) ?_
            refine lv_aload_n hx hb dX11_voyage_117 rfl (lv_at hl 0 rfl) ?_
            refine va_get (D := (dC, dI)) (ci := 11) (v := .ref (ρ h0 5)) (C := RX11) (T := TX11) (N := 7) hx hb hts hfX11 hown hK hP q9 eq9 rfl 5 (by decide) (hts (.fieldLink RX11 46 "ColdShips" "planner" "LColdShips$Planner;") wa_32) (fun _ h9 => h9) rfl dX11_voyage_118 ?_
            refine va_getN (D := (dC, dI)) (ci := 1) (v := .ref (ρ (ρ h0 5) 14)) (C := RX1) (T := TX1) (N := 15) hx hb hts hfX1 hown hK hP q21 eq21 rfl 14 (by decide) (va_Nw.use rfl (hN.1 (.fieldLinkNest RX11 340 "ColdShips$Planner" "worthOf" "[J" "ColdShips") nzw_98)) (fun _ h9 => h9) rfl dX11_voyage_121 ?_
            refine lv_iload_n hx hb dX11_voyage_124 rfl (lv_at hl 1 rfl) ?_
            refine tpk_21 hT y19 y19n (fun g47 hf_o46 => ?_)
            refine tpk_pos (tp_in hG y19 (by decide)) hf_o46 (fun q48 eq48 => ?_)
            refine va_lald hx hb hK hP q48 1 eq48 rfl (vp_in_iff.mpr ⟨by omega, by omega⟩) dX11_voyage_125 ?_
            refine lv_topl (fun z49 ez49 => ?_)
            exact W.lret (v := z49) hx hb hr (fun t ht hW => ⟨⟨z49, f, rfl, ⟨hT, hR, trivial, trivial⟩, by rw [ht]; exact hP, va_K.moved hW.alike hK, hD⟩, hS.F ht⟩) hS.2.2 dX11_voyage_126
      · have ic32 : z31.toInt = (-1) := zi_nef rfl rfl c32
        refine lv_ldc2 (own := RX11) (v := (-2000000000000000)) hx hb hown (hts (.constantLong RX11 281 (-2000000000000000)) wa_1124) dX11_voyage_49 ?_
        exact W.lret (v := (-2000000000000000)) hx hb hr (fun t ht hW => ⟨⟨(-2000000000000000), f, rfl, ⟨hT, hR, trivial, trivial⟩, by rw [ht]; exact hP, va_K.moved hW.alike hK, hD⟩, hS.F ht⟩) hS.2.2 dX11_voyage_52
    · have ic27 : u.toInt = 0 := zi_nef rfl rfl c27
      refine lv_aload_n hx hb dX11_voyage_25 rfl (lv_at hl 0 rfl) ?_
      refine va_get (D := (dC, dI)) (ci := 11) (v := .ref (ρ h0 5)) (C := RX11) (T := TX11) (N := 7) hx hb hts hfX11 hown hK hP q9 eq9 rfl 5 (by decide) (hts (.fieldLink RX11 46 "ColdShips" "planner" "LColdShips$Planner;") wa_32) (fun _ h9 => h9) rfl dX11_voyage_26 ?_
      refine va_getN (D := (dC, dI)) (ci := 1) (v := .ref (ρ (ρ h0 5) 10)) (C := RX1) (T := TX1) (N := 15) hx hb hts hfX1 hown hK hP q21 eq21 rfl 10 (by decide) (va_Nw.use rfl (hN.1 (.fieldLinkNest RX11 328 "ColdShips$Planner" "shipOf" "[I" "ColdShips") nzw_94)) (fun _ h9 => h9) rfl dX11_voyage_29 ?_
      refine lv_iload_n hx hb dX11_voyage_32 rfl (lv_at hl 1 rfl) ?_
      refine tpk_20 hT y15 y15n (fun g51 hf_o50 => ?_)
      refine tpk_pos (tp_in hG y15 (by decide)) hf_o50 (fun q52 eq52 => ?_)
      refine va_iald hx hb hK hP q52 0 eq52 rfl (vp_in_iff.mpr ⟨by omega, by omega⟩) dX11_voyage_33 ?_
      refine lv_topi (fun z53 ez53 => ?_)
      refine lv_i2l hx hb dX11_voyage_34 rfl ?_
      exact W.lret (v := z53.toInt64) hx hb hr (fun t ht hW => ⟨⟨z53.toInt64, f, rfl, ⟨hT, hR, trivial, trivial⟩, by rw [ht]; exact hP, va_K.moved hW.alike hK, hD⟩, hS.F ht⟩) hS.2.2 dX11_voyage_35
  · have ic25 : r23.toInt = 0 := zi_nef rfl rfl c25
    clear hw24r ic25
    refine lv_ldc2 (own := RX11) (v := (-2000000000000000)) hx hb hown (hts (.constantLong RX11 281 (-2000000000000000)) wa_1124) dX11_voyage_17 ?_
    exact W.lret (v := (-2000000000000000)) hx hb hr (fun t ht hW => ⟨⟨(-2000000000000000), f, rfl, ⟨hT, hR, trivial, trivial⟩, by rw [ht]; exact hP, va_K.moved hW.alike hK, hD⟩, hS.F ht⟩) hS.2.2 dX11_voyage_20
set_option maxHeartbeats 4000000 in
set_option maxRecDepth 100000 in
theorem t_X11_judge (l : Launch) (dC : Nat → ClassId) (dI : Nat → Nat → Nat) (sz : Nat) (Ω : Nat → Nat → (Nat → Nat) → va_E → Prop) (κ : Nat → ClassId) (τ ν : Nat → Nat) (ρ : Nat → Nat → Nat) (L : List Nat) (f : Nat → va_E) (hG : tp_G τ ν ρ L) (hT : tp_T Ω κ τ ν ρ f) (h0 : Nat) (v : Int32) (u : Int32) (a : Int32) (b : Int32) (a5 : Int32) (ht_h0 : τ h0 = 12) : Met l yX11_judge wqX11_judge ({ frames := 6, cells := 0, slots := 0, locals := 2000 }) (va_Pc [.ref h0, .int v, .int u, .int a, .int b, .int a5] (pz_B dC dI (tp_K κ) (va_pl L f) sz)) (va_Ql (fun (r : Int64) (f1 : Nat → va_E) => tp_T Ω κ τ ν ρ f1 ∧ tp_F τ [2] f f1 ∧ True ∧ True) (fun (f1 : Nat → va_E) (t : State) => pz_E dC dI (tp_K κ) (va_A (va_pl L f) sz) (va_pl L f1) t) (va_A (va_pl L f) sz)) 0 0 (va_A (va_pl L f) sz) := by
  refine Met.ofW (cc := cX11_judge) (maxL := 6) (ret := some .long) (by decide) rfl ?_
  intro p e s m args below meth c s₁ B hml hv
  obtain ⟨rfl, hsz, hP, hK, hD0, hN⟩ := hv
  have hx := B.exec
  have hb := B.bytes
  have hr := B.returns
  have hts := fun (w : Cond) (h : w ∈ WALL) => atoms_spec (ws := wqX11_judge) B.pre w (List.mem_cons_of_mem _ h)
  have hown : s.vm.findClass RX11 = some m.cls := findClass_of_methodNamed B.named
  have hlocks := B.notSynchronized
  subst hsz
  have hD := hD0.self (sz := s.heap.size)
  generalize hAe : va_A (va_pl L f) s.heap.size = A at hD ⊢
  have hA : ∀ q : Nat, s.heap.size ≤ q → A q := fun q h => by rw [← hAe]; exact Or.inr h
  have hS : va_S A s.heap s.heap [] := va_S.rf
  have hR : tp_F τ [2] f f := tp_F.rf
  have hl := lv_entry ([.ref h0, .int v, .int u, .int a, .int b, .int a5]) (n := 6) (Nat.le_of_ble_eq_true rfl)
  rw [lg_entry_eq]
  generalize (lg_sl ([.ref h0, .int v, .int u, .int a, .int b, .int a5]) ++ List.replicate (6 - (lg_sl ([.ref h0, .int v, .int u, .int a, .int b, .int a5])).length) Slot.unset).toArray = ls at hl ⊢
  have hl : lv_has ls 6 [(0, .ref h0), (1, .int v), (2, .int u), (3, .int a), (4, .int b), (5, .int a5)] := hl
  refine lv_aload_n hx hb dX11_judge_0 rfl (lv_at hl 0 rfl) ?_
  refine tgk_12 hG ht_h0 (fun y1 y1l y2 y3 y4 y5 y6 y7a y7b y7c => ?_)
  refine tpk_12 hT ht_h0 (fun o8_x6 hf_o8 => ?_)
  refine tpk_pos (tp_in hG ht_h0 (by decide)) hf_o8 (fun q9 eq9 => ?_)
  refine va_get (D := (dC, dI)) (ci := 11) (v := .ref (ρ h0 5)) (C := RX11) (T := TX11) (N := 7) hx hb hts hfX11 hown hK hP q9 eq9 rfl 5 (by decide) (hts (.fieldLink RX11 46 "ColdShips" "planner" "LColdShips$Planner;") wa_32) (fun _ h9 => h9) rfl dX11_judge_1 ?_
  refine lv_iload_n hx hb dX11_judge_4 rfl (lv_at hl 1 rfl) ?_
  refine tgk_2 hG y6 (fun y10 y10l y11 y11n y12 y12n y13 y13n y14 y14n y15 y15n y16 y16n y17 y17n y18 y18n y19 y19n => ?_)
  refine tpk_2 hT y6 (fun o20_x5 o20_x6 o20_x7 o20_x8 o20_x9 hf_o20 ro20_0 => ?_)
  refine tpk_pos (tp_in hG y6 (by decide)) hf_o20 (fun q21 eq21 => ?_)
  refine pz_calli (va_runV (As := [.int v]) (rest := []) ⟨hx, hb, hml, hown, hts⟩ (t_X1_sails l dC dI _ Ω κ τ ν ρ L f hG hT (ρ h0 5) v y6) (cwV 1 hts gX11_judge_X1_sails rfl rfl rfl ⟨rfl, pd_X1_sails⟩ ⟨Nat.le_of_ble_eq_true rfl, Nat.le_of_ble_eq_true rfl⟩) ⟨pz_blind, va_recv hK hP (ci := 1) (q0 := q21) rfl eq21, pz_pre hP hK hD hN⟩ rfl rfl hl.1 rfl (lv_room (Nat.le_of_ble_eq_true rfl)) dX11_judge_5 ⟨Nat.le_of_ble_eq_true rfl, Nat.le_of_ble_eq_true rfl⟩) (fun r22 hw23 => ?_)
  obtain ⟨hw23r, hw23p⟩ := hw23
  refine lv_if_eq (tgt := 19) hx hb dX11_judge_8 (by decide) (fun c24 => ?_) (fun c24 => ?_)
  · have ic24 : r22.toInt = 0 := zi_eq rfl rfl c24
    refine lv_ldc2 (own := RX11) (v := (-2000000000000000)) hx hb hown (hts (.constantLong RX11 281 (-2000000000000000)) wa_1124) dX11_judge_19 ?_
    exact W.lret (v := (-2000000000000000)) hx hb hr (fun t ht hW => ⟨⟨(-2000000000000000), f, rfl, ⟨hT, hR, trivial, trivial⟩, by rw [ht]; exact hP, va_K.moved hW.alike hK, hD⟩, hS.F ht⟩) hS.2.2 dX11_judge_22
  · have ic24 : r22.toInt ≠ 0 := zi_eqf rfl rfl c24
    have p25 : 0 ≤ v.toInt ∧ v.toInt ≤ 2 := hw23p (by omega)
    refine lv_iload hx hb dX11_judge_11 (lv_at hl 5 rfl) ?_
    refine pz_calli (va_runS (As := [.int a5]) (rest := []) ⟨hx, hb, hml, hown, hts⟩ (t_X11_isHour l dC dI _ a5 (a5.toInt) rfl) (va_cwS 1 hts gX11_judge_X11_isHour rfl rfl rfl pd_X11_isHour ⟨Nat.le_of_ble_eq_true rfl, Nat.le_of_ble_eq_true rfl⟩) ⟨pz_blind, pz_pre pz_P0 (hK.sub (tys' := []) [] rfl) (pz_D0 (A := fun _ => True)) hN⟩ rfl rfl hl.1 rfl (lv_room (Nat.le_of_ble_eq_true rfl)) dX11_judge_13 ⟨Nat.le_of_ble_eq_true rfl, Nat.le_of_ble_eq_true rfl⟩) (fun r26 hw27 => ?_)
    obtain ⟨hw27r, hw27p⟩ := hw27
    refine lv_if_ne (tgt := 23) hx hb dX11_judge_16 (by decide) (fun c28 => ?_) (fun c28 => ?_)
    · have ic28 : r26.toInt ≠ 0 := zi_ne rfl rfl c28
      have p29 : 0 ≤ (a5.toInt) ∧ (a5.toInt) ≤ 2399 := (tp_cond.yes hw27p) (by omega)
      clear hw27r ic28
      refine lv_aload_n hx hb dX11_judge_23 rfl (lv_at hl 0 rfl) ?_
      refine va_get (D := (dC, dI)) (ci := 11) (v := .ref (ρ h0 5)) (C := RX11) (T := TX11) (N := 7) hx hb hts hfX11 hown hK hP q9 eq9 rfl 5 (by decide) (hts (.fieldLink RX11 46 "ColdShips" "planner" "LColdShips$Planner;") wa_32) (fun _ h9 => h9) rfl dX11_judge_24 ?_
      refine lv_iload_n hx hb dX11_judge_27 rfl (lv_at hl 1 rfl) ?_
      refine lv_iload_n hx hb dX11_judge_28 rfl (lv_at hl 2 rfl) ?_
      refine lv_iload_n hx hb dX11_judge_29 rfl (lv_at hl 3 rfl) ?_
      refine lv_iload hx hb dX11_judge_30 (lv_at hl 4 rfl) ?_
      refine lv_iload hx hb dX11_judge_32 (lv_at hl 5 rfl) ?_
      have hFc := tp_fr hD hS hA
      refine va_calll (va_runV (As := [.int v, .int u, .int a, .int b, .int a5]) (rest := []) ⟨hx, hb, hml, hown, hts⟩ (t_X1_worthOfRow l dC dI _ Ω κ τ ν ρ L f hG hT (ρ h0 5) v u a b a5 y6 (by first | decide | omega)) (cwV 5 hts gX11_judge_X1_worthOfRow rfl rfl rfl ⟨rfl, pd_X1_worthOfRow⟩ ⟨Nat.le_of_ble_eq_true rfl, Nat.le_of_ble_eq_true rfl⟩) ⟨pz_blind, va_recv hK hP (ci := 1) (q0 := q21) rfl eq21, pz_pre hP hK hD hN⟩ rfl rfl hl.1 rfl (lv_room (Nat.le_of_ble_eq_true rfl)) dX11_judge_34 ⟨Nat.le_of_ble_eq_true rfl, Nat.le_of_ble_eq_true rfl⟩) hS (fun q _ h => hFc q h) hFc (fun r30 f32 t H1 locs ht hvm hw31 hB hz1 hk1 hS => ?_)
      refine tn_4 hw31 (fun hT hF33 hw31r hw31p => ?_); clear hw31
      have hR := hR.then hF33 (by decide)
      have hP := hB.1; rw [ht] at hP; have hD := tp_ad f32 hD; clear hB hFc hz1 hk1; subst ht; generalize t.heap = H at hP hS ⊢
      exact W.lret (v := r30) hx hb hr (fun t ht hW => ⟨⟨r30, f32, rfl, ⟨hT, hR, trivial, trivial⟩, by rw [ht]; exact hP, va_K.moved hW.alike hK, hD⟩, hS.F ht⟩) hS.2.2 dX11_judge_37
    · have ic28 : r26.toInt = 0 := zi_nef rfl rfl c28
      clear hw27r ic28
      refine lv_ldc2 (own := RX11) (v := (-2000000000000000)) hx hb hown (hts (.constantLong RX11 281 (-2000000000000000)) wa_1124) dX11_judge_19 ?_
      exact W.lret (v := (-2000000000000000)) hx hb hr (fun t ht hW => ⟨⟨(-2000000000000000), f, rfl, ⟨hT, hR, trivial, trivial⟩, by rw [ht]; exact hP, va_K.moved hW.alike hK, hD⟩, hS.F ht⟩) hS.2.2 dX11_judge_22
set_option maxHeartbeats 4000000 in
set_option maxRecDepth 100000 in
theorem t_X11_back (l : Launch) (dC : Nat → ClassId) (dI : Nat → Nat → Nat) (sz : Nat) (Ω : Nat → Nat → (Nat → Nat) → va_E → Prop) (κ : Nat → ClassId) (τ ν : Nat → Nat) (ρ : Nat → Nat → Nat) (L : List Nat) (f : Nat → va_E) (hG : tp_G τ ν ρ L) (hT : tp_T Ω κ τ ν ρ f) (h0 : Nat) (v : Int32) (ht_h0 : τ h0 = 12) : Met l yX11_back wqX11_back ({ frames := 5, cells := 0, slots := 0, locals := 1600 }) (va_Pc [.ref h0, .int v] (pz_B dC dI (tp_K κ) (va_pl L f) sz)) (va_Qi (fun (r : Int32) (f1 : Nat → va_E) => tp_T Ω κ τ ν ρ f1 ∧ tp_F τ [5, 6, 7, 8, 9, 11, 12, 20, 21, 26] f f1 ∧ True ∧ tp_X τ ρ (fun n => n ≤ 18) f f1 ∧ (¬ (0 ≤ v.toInt ∧ v.toInt ≤ 1) → r.toInt = -1 ∧ tp_V ρ ρ f f1 (ρ h0 0) (ρ h0 0)) ∧ (0 ≤ v.toInt ∧ v.toInt ≤ 1 → tp_arr (f (ρ h0 1)) v.toNatClampNeg = none → r.toInt = -2 ∧ tp_V ρ ρ f f1 (ρ h0 0) (ρ h0 0)) ∧ (0 ≤ v.toInt ∧ v.toInt ≤ 1 → ∀ b, tp_arr (f (ρ h0 1)) v.toNatClampNeg = some b → r.toInt = 0 ∧ tp_V ρ ρ f f1 b (ρ h0 0))) (fun (f1 : Nat → va_E) (t : State) => pz_E dC dI (tp_K κ) (va_A (va_pl L f) sz) (va_pl L f1) t) (va_A (va_pl L f) sz)) 0 0 (va_A (va_pl L f) sz) := by
  refine Met.ofW (cc := cX11_back) (maxL := 2) (ret := some .int) (by decide) rfl ?_
  intro p e s m args below meth c s₁ B hml hv
  obtain ⟨rfl, hsz, hP, hK, hD0, hN⟩ := hv
  have hx := B.exec
  have hb := B.bytes
  have hr := B.returns
  have hts := fun (w : Cond) (h : w ∈ WALL) => atoms_spec (ws := wqX11_back) B.pre w (List.mem_cons_of_mem _ h)
  have hown : s.vm.findClass RX11 = some m.cls := findClass_of_methodNamed B.named
  have hlocks := B.notSynchronized
  subst hsz
  have hD := hD0.self (sz := s.heap.size)
  generalize hAe : va_A (va_pl L f) s.heap.size = A at hD ⊢
  have hA : ∀ q : Nat, s.heap.size ≤ q → A q := fun q h => by rw [← hAe]; exact Or.inr h
  have hS : va_S A s.heap s.heap [] := va_S.rf
  have hR : tp_F τ [5, 6, 7, 8, 9, 11, 12, 20, 21, 26] f f := tp_F.rf
  have hX : tp_X τ ρ (fun n => n ≤ 18) f f := tp_X.rf
  have hl := lv_entry ([.ref h0, .int v]) (n := 2) (Nat.le_of_ble_eq_true rfl)
  rw [lg_entry_eq]
  generalize (lg_sl ([.ref h0, .int v]) ++ List.replicate (2 - (lg_sl ([.ref h0, .int v])).length) Slot.unset).toArray = ls at hl ⊢
  have hl : lv_has ls 2 [(0, .ref h0), (1, .int v)] := hl
  refine tgk_12 hG ht_h0 (fun y1 y1l y2 y3 y4 y5 y6 y7a y7b y7c => ?_)
  refine tgk_11 hG y1 (fun y8 y8n y9 y9n y10 y11 y12 y13 y13m y13l y14 y14m y14l y15 y15m y15l y16 y16w y16m y16l y17 y17w y17m y17l y18 y18w y18m y18l y19 y19w y19m y19l => ?_)
  refine tpk_11 hT y1 (fun o20_x0 o20_x1 o20_x2 o20_x3 o20_x4 o20_x5 o20_x6 hf_o20 ro20_0 ro20_1 ro20_2 ro20_3 => ?_)
  have ro20_0 := tp_hu ro20_0
  have tv21 : tp_fld (f (ρ h0 0)) 0 = o20_x0.toInt := by rw [hf_o20]; rfl
  have ro20_1 := tp_hu ro20_1
  have tv22 : tp_fld (f (ρ h0 0)) 4 = o20_x4.toInt := by rw [hf_o20]; rfl
  have ro20_2 := tp_hu ro20_2
  have tv23 : tp_fld (f (ρ h0 0)) 5 = o20_x5.toInt := by rw [hf_o20]; rfl
  refine tgk_7 hG y14 (fun y24 y24n y25 y25n y26 y26n y27a y27b => ?_)
  refine tpk_7 hT y14 (fun o28_x3 hf_o28 ro28_0 => ?_)
  have ro28_0 := tp_hu ro28_0
  have tv29 : tp_fld (f (ρ (ρ h0 0) 13)) 3 = o28_x3.toInt := by rw [hf_o28]; rfl
  refine tgk_7 hG y15 (fun y30 y30n y31 y31n y32 y32n y33a y33b => ?_)
  refine tpk_7 hT y15 (fun o34_x3 hf_o34 ro34_0 => ?_)
  have ro34_0 := tp_hu ro34_0
  have tv35 : tp_fld (f (ρ (ρ h0 0) 14)) 3 = o34_x3.toInt := by rw [hf_o34]; rfl
  refine tgk_5 hG y16 (fun y36 y36n y37a y37b y37c => ?_)
  refine tpk_5 hT y16 (fun o38_x0 o38_x2 hf_o38 ro38_0 ro38_1 => ?_)
  have ro38_1 := tp_hu ro38_1
  have tv39 : tp_fld (f (ρ (ρ h0 0) 15)) 2 = o38_x2.toInt := by rw [hf_o38]; rfl
  refine tgk_5 hG y19 (fun y40 y40n y41a y41b y41c => ?_)
  refine tpk_5 hT y19 (fun o42_x0 o42_x2 hf_o42 ro42_0 ro42_1 => ?_)
  have ro42_1 := tp_hu ro42_1
  have tv43 : tp_fld (f (ρ (ρ h0 0) 18)) 2 = o42_x2.toInt := by rw [hf_o42]; rfl
  refine tpk_27 hT y2 (fun g45 hf_o44 hf_o44e => ?_)
  have im46 : tp_arr (f (ρ h0 1)) = g45 := by rw [hf_o44]; rfl
  refine lv_iload_n hx hb dX11_back_0 rfl (lv_at hl 1 rfl) ?_
  refine lv_iconst (v := 0) hx hb dX11_back_1 (by decide) ?_
  refine lv_aload_n hx hb dX11_back_2 rfl (lv_at hl 0 rfl) ?_
  refine tpk_12 hT ht_h0 (fun o47_x6 hf_o47 => ?_)
  refine tpk_pos (tp_in hG ht_h0 (by decide)) hf_o47 (fun q48 eq48 => ?_)
  refine va_get (D := (dC, dI)) (ci := 11) (v := .ref (ρ h0 1)) (C := RX11) (T := TX11) (N := 7) hx hb hts hfX11 hown hK hP q48 eq48 rfl 1 (by decide) (hts (.fieldLink RX11 16 "ColdShips" "images" "[LColdShips$World;") wa_16) (fun _ h9 => h9) rfl dX11_back_3 ?_
  refine tpk_pos (tp_in hG y2 (by decide)) hf_o44 (fun q49 eq49 => ?_)
  refine va_alen hx hb hK hP q49 7 eq49 rfl (rfl : Int32.ofNat 2 = (2 : Int32)) dX11_back_6 ?_
  refine lv_iconst (v := 1) hx hb dX11_back_7 (by decide) ?_
  refine lv_isub hx hb dX11_back_8 ?_
  refine lv_topi (fun z50 ez50 => ?_)
  obtain rfl : z50 = 1 := ez50.trans (by first | rfl | decide)
  refine pz_calli (va_runS (As := [.int v, .int 0, .int 1]) (rest := []) ⟨hx, hb, hml, hown, hts⟩ (t_X11_within l dC dI _ v (0) (1) (v.toInt) (0) (1) rfl rfl rfl) (va_cwS 3 hts gX11_back_X11_within rfl rfl rfl pd_X11_within ⟨Nat.le_of_ble_eq_true rfl, Nat.le_of_ble_eq_true rfl⟩) ⟨pz_blind, pz_pre pz_P0 (hK.sub (tys' := []) [] rfl) (pz_D0 (A := fun _ => True)) hN⟩ rfl rfl hl.1 rfl (lv_room (Nat.le_of_ble_eq_true rfl)) dX11_back_9 ⟨Nat.le_of_ble_eq_true rfl, Nat.le_of_ble_eq_true rfl⟩) (fun r51 hw52 => ?_)
  obtain ⟨hw52r, hw52p⟩ := hw52
  refine lv_if_ne (tgt := 21) hx hb dX11_back_12 (by decide) (fun c53 => ?_) (fun c53 => ?_)
  · have ic53 : r51.toInt ≠ 0 := zi_ne rfl rfl c53
    have p54 : (0) ≤ (v.toInt) ∧ (v.toInt) ≤ (1) := (tp_cond.yes hw52p) (by omega)
    clear hw52r ic53
    refine lv_aload_n hx hb dX11_back_21 rfl (lv_at hl 0 rfl) ?_
    refine va_get (D := (dC, dI)) (ci := 11) (v := .ref (ρ h0 1)) (C := RX11) (T := TX11) (N := 7) hx hb hts hfX11 hown hK hP q48 eq48 rfl 1 (by decide) (hts (.fieldLink RX11 16 "ColdShips" "images" "[LColdShips$World;") wa_16) (fun _ h9 => h9) rfl dX11_back_22 ?_
    refine lv_iload_n hx hb dX11_back_25 rfl (lv_at hl 1 rfl) ?_
    refine va_aldq hx hb hK hP q49 7 eq49 rfl (vp_in_iff.mpr ⟨by omega, by omega⟩) dX11_back_26 ?_
    have hq55 := hf_o44e v.toNatClampNeg (zi_cl (vp_in_iff.mpr ⟨by omega, by omega⟩))
    rcases hq55 with hq57 | ⟨b56, hq57, hq57t, hq57l⟩
    · rw [hq57]
      refine lv_ifnonnullN hx hb dX11_back_27 ?_
      refine lv_aload_n hx hb dX11_back_30 rfl (lv_at hl 0 rfl) ?_
      refine lv_bipush (v := (-2)) hx hb dX11_back_31 (by decide) ?_
      have hFc := tp_fr hD hS hA
      refine va_calli (va_runV (As := [.int (-2)]) (rest := []) ⟨hx, hb, hml, hown, hts⟩ (t_X11_refuse l dC dI _ Ω κ τ ν ρ L f hG hT h0 ((-2)) ht_h0) (cwV 1 hts gX11_back_X11_refuse rfl rfl rfl ⟨rfl, pd_X11_refuse⟩ ⟨Nat.le_of_ble_eq_true rfl, Nat.le_of_ble_eq_true rfl⟩) ⟨pz_blind, va_recv hK hP (ci := 11) (q0 := q48) rfl eq48, pz_pre hP hK hD hN⟩ rfl rfl hl.1 rfl (lv_room (Nat.le_of_ble_eq_true rfl)) dX11_back_33 ⟨Nat.le_of_ble_eq_true rfl, Nat.le_of_ble_eq_true rfl⟩) hS (fun q _ h => hFc q h) hFc (fun r58 f60 t H1 locs ht hvm hw59 hB hz1 hk1 hS => ?_)
      refine tn_4 hw59 (fun hT hF61 hw59r hw59p => ?_); clear hw59
      have hR := hR.then hF61 (by decide)
      have hX := hX.fr hF61 (by decide)
      have hP := hB.1; rw [ht] at hP; have hD := tp_ad f60 hD; clear hB hFc hz1 hk1; subst ht; generalize t.heap = H at hP hS ⊢
      have hw59pq : r58.toInt = (-2) := by rw [hw59p]; rfl
      have hf_62 : f60 (ρ h0 0) = .inr (10, [.int o20_x0, .int o20_x1, .int o20_x2, .int o20_x3, .int o20_x4, .int o20_x5, .int o20_x6, .ref (ρ (ρ h0 0) 7), .ref (ρ (ρ h0 0) 8), .ref (ρ (ρ h0 0) 9), .ref (ρ (ρ h0 0) 10), .ref (ρ (ρ h0 0) 11), .ref (ρ (ρ h0 0) 12), .ref (ρ (ρ h0 0) 13), .ref (ρ (ρ h0 0) 14), .ref (ρ (ρ h0 0) 15), .ref (ρ (ρ h0 0) 16), .ref (ρ (ρ h0 0) 17), .ref (ρ (ρ h0 0) 18)]) := (hF61 _ (by rw [tp_iu y1]; decide)).trans hf_o20
      have tv63 : tp_fld (f60 (ρ h0 0)) 0 = o20_x0.toInt := by rw [hf_62]; rfl
      have tv64 : tp_fld (f60 (ρ h0 0)) 4 = o20_x4.toInt := by rw [hf_62]; rfl
      have tv65 : tp_fld (f60 (ρ h0 0)) 5 = o20_x5.toInt := by rw [hf_62]; rfl
      have hf_66 : f60 (ρ (ρ h0 0) 13) = .inr (6, [.ref (ρ (ρ (ρ h0 0) 13) 0), .ref (ρ (ρ (ρ h0 0) 13) 1), .ref (ρ (ρ (ρ h0 0) 13) 2), .int o28_x3]) := (hF61 _ (by rw [tp_iu y14]; decide)).trans hf_o28
      have tv67 : tp_fld (f60 (ρ (ρ h0 0) 13)) 3 = o28_x3.toInt := by rw [hf_66]; rfl
      have hf_68 : f60 (ρ (ρ h0 0) 14) = .inr (6, [.ref (ρ (ρ (ρ h0 0) 14) 0), .ref (ρ (ρ (ρ h0 0) 14) 1), .ref (ρ (ρ (ρ h0 0) 14) 2), .int o34_x3]) := (hF61 _ (by rw [tp_iu y15]; decide)).trans hf_o34
      have tv69 : tp_fld (f60 (ρ (ρ h0 0) 14)) 3 = o34_x3.toInt := by rw [hf_68]; rfl
      have hf_70 : f60 (ρ (ρ h0 0) 15) = .inr (4, [.int o38_x0, .ref (ρ (ρ (ρ h0 0) 15) 1), .int o38_x2]) := (hF61 _ (by rw [tp_iu y16]; decide)).trans hf_o38
      have tv71 : tp_fld (f60 (ρ (ρ h0 0) 15)) 2 = o38_x2.toInt := by rw [hf_70]; rfl
      have hf_72 : f60 (ρ (ρ h0 0) 18) = .inr (4, [.int o42_x0, .ref (ρ (ρ (ρ h0 0) 18) 1), .int o42_x2]) := (hF61 _ (by rw [tp_iu y19]; decide)).trans hf_o42
      have tv73 : tp_fld (f60 (ρ (ρ h0 0) 18)) 2 = o42_x2.toInt := by rw [hf_72]; rfl
      exact W.iret (v := r58) hx hb hr (fun t ht hW => ⟨⟨r58, f60, rfl, ⟨hT, hR, trivial, ⟨hX, ⟨fun q => by exfalso; omega, fun _ _ => ⟨by omega, (by unfold tp_V; rw [tv63, tv64, tv65, tv67, tv69, tv71, tv73, tv21, tv22, tv23, tv29, tv35, tv39, tv43]; exact ⟨rfl, rfl, rfl, rfl, rfl, rfl, rfl⟩)⟩, fun _ b hb => by rw [im46, hq57] at hb; cases hb⟩⟩⟩, by rw [ht]; exact hP, va_K.moved hW.alike hK, hD⟩, hS.F ht⟩) hS.2.2 dX11_back_36
    · rw [hq57]
      refine lv_ifnonnull (tgt := 37) hx hb dX11_back_27 (by decide) ?_
      refine lv_aload_n hx hb dX11_back_37 rfl (lv_at hl 0 rfl) ?_
      refine va_get (D := (dC, dI)) (ci := 11) (v := .ref (ρ h0 0)) (C := RX11) (T := TX11) (N := 7) hx hb hts hfX11 hown hK hP q48 eq48 rfl 0 (by decide) (hts (.fieldLink RX11 10 "ColdShips" "world" "LColdShips$World;") wa_15) (fun _ h9 => h9) rfl dX11_back_38 ?_
      refine lv_aload_n hx hb dX11_back_41 rfl (lv_at hl 0 rfl) ?_
      refine va_get (D := (dC, dI)) (ci := 11) (v := .ref (ρ h0 1)) (C := RX11) (T := TX11) (N := 7) hx hb hts hfX11 hown hK hP q48 eq48 rfl 1 (by decide) (hts (.fieldLink RX11 16 "ColdShips" "images" "[LColdShips$World;") wa_16) (fun _ h9 => h9) rfl dX11_back_42 ?_
      refine lv_iload_n hx hb dX11_back_45 rfl (lv_at hl 1 rfl) ?_
      refine va_aldq hx hb hK hP q49 7 eq49 rfl (vp_in_iff.mpr ⟨by omega, by omega⟩) dX11_back_46 ?_
      refine W.eq (g2 := F0 m 47 ls (.ref b56 :: [.ref (ρ h0 0)])) (congrArg (fun o => F0 m 47 ls (va_rf o :: [.ref (ρ h0 0)])) hq57) ?_
      refine tpk_pos (tp_in hG y1 (by decide)) hf_o20 (fun q74 eq74 => ?_)
      have hFc := tp_fr hD hS hA
      refine va_callv (va_runV (As := [.ref b56]) (rest := []) ⟨hx, hb, hml, hown, hts⟩ (t_X10_copyFrom l dC dI _ Ω κ τ ν ρ L f hG hT (ρ h0 0) b56 y1 hq57t (by omega)) (cwV 1 hts gX11_back_X10_copyFrom rfl rfl rfl ⟨rfl, pd_X10_copyFrom⟩ ⟨Nat.le_of_ble_eq_true rfl, Nat.le_of_ble_eq_true rfl⟩) ⟨pz_blind, va_recv hK hP (ci := 10) (q0 := q74) rfl eq74, pz_pre hP hK hD hN⟩ rfl rfl hl.1 rfl (lv_room (Nat.le_of_ble_eq_true rfl)) dX11_back_47 ⟨Nat.le_of_ble_eq_true rfl, Nat.le_of_ble_eq_true rfl⟩) hS (fun q _ h => hFc q h) hFc (fun f77 t H1 locs ht hvm hw76 hB hz1 hk1 hS => ?_)
      refine tn_3 hw76 (fun hT hF78 hw76p => ?_); clear hw76
      have hR := hR.then hF78 (by decide)
      obtain ⟨hw76x, hw76p⟩ := hw76p
      have hX := hX.th hw76x (fun n q9 => by have q8 : (ρ (ρ h0 0) 30 ≤ n ∧ n ≤ ρ (ρ h0 0) 30 + 18) := q9; show n ≤ 18; omega)
      have hP := hB.1; rw [ht] at hP; have hD := tp_ad f77 hD; clear hB hFc hz1 hk1; subst ht; generalize t.heap = H at hP hS ⊢
      refine tpk_11 hT y1 (fun o79_x0 o79_x1 o79_x2 o79_x3 o79_x4 o79_x5 o79_x6 hf_o79 ro79_0 ro79_1 ro79_2 ro79_3 => ?_)
      have ro79_0 := tp_hu ro79_0
      have tv80 : tp_fld (f77 (ρ h0 0)) 0 = o79_x0.toInt := by rw [hf_o79]; rfl
      have tv81 : tp_fld (f77 (ρ h0 0)) 1 = o79_x1.toInt := by rw [hf_o79]; rfl
      have tv82 : tp_fld (f77 (ρ h0 0)) 2 = o79_x2.toInt := by rw [hf_o79]; rfl
      have tv83 : tp_fld (f77 (ρ h0 0)) 3 = o79_x3.toInt := by rw [hf_o79]; rfl
      have ro79_1 := tp_hu ro79_1
      have tv84 : tp_fld (f77 (ρ h0 0)) 4 = o79_x4.toInt := by rw [hf_o79]; rfl
      have ro79_2 := tp_hu ro79_2
      have tv85 : tp_fld (f77 (ρ h0 0)) 5 = o79_x5.toInt := by rw [hf_o79]; rfl
      have ro79_3 := tp_hu ro79_3
      have tv86 : tp_fld (f77 (ρ h0 0)) 6 = o79_x6.toInt := by rw [hf_o79]; rfl
      refine tgk_7 hG y13 (fun y87 y87n y88 y88n y89 y89n y90a y90b => ?_)
      refine tpk_7 hT y13 (fun o91_x3 hf_o91 ro91_0 => ?_)
      have ro91_0 := tp_hu ro91_0
      have tv92 : tp_fld (f77 (ρ (ρ h0 0) 12)) 3 = o91_x3.toInt := by rw [hf_o91]; rfl
      refine tpk_7 hT y14 (fun o93_x3 hf_o93 ro93_0 => ?_)
      have ro93_0 := tp_hu ro93_0
      have tv94 : tp_fld (f77 (ρ (ρ h0 0) 13)) 3 = o93_x3.toInt := by rw [hf_o93]; rfl
      refine tpk_7 hT y15 (fun o95_x3 hf_o95 ro95_0 => ?_)
      have ro95_0 := tp_hu ro95_0
      have tv96 : tp_fld (f77 (ρ (ρ h0 0) 14)) 3 = o95_x3.toInt := by rw [hf_o95]; rfl
      refine tpk_5 hT y16 (fun o97_x0 o97_x2 hf_o97 ro97_0 ro97_1 => ?_)
      have ro97_1 := tp_hu ro97_1
      have tv98 : tp_fld (f77 (ρ (ρ h0 0) 15)) 2 = o97_x2.toInt := by rw [hf_o97]; rfl
      refine tgk_5 hG y17 (fun y99 y99n y100a y100b y100c => ?_)
      refine tpk_5 hT y17 (fun o101_x0 o101_x2 hf_o101 ro101_0 ro101_1 => ?_)
      have ro101_1 := tp_hu ro101_1
      have tv102 : tp_fld (f77 (ρ (ρ h0 0) 16)) 2 = o101_x2.toInt := by rw [hf_o101]; rfl
      refine tgk_5 hG y18 (fun y103 y103n y104a y104b y104c => ?_)
      refine tpk_5 hT y18 (fun o105_x0 o105_x2 hf_o105 ro105_0 ro105_1 => ?_)
      have ro105_1 := tp_hu ro105_1
      have tv106 : tp_fld (f77 (ρ (ρ h0 0) 17)) 2 = o105_x2.toInt := by rw [hf_o105]; rfl
      refine tpk_5 hT y19 (fun o107_x0 o107_x2 hf_o107 ro107_0 ro107_1 => ?_)
      have ro107_1 := tp_hu ro107_1
      have tv108 : tp_fld (f77 (ρ (ρ h0 0) 18)) 2 = o107_x2.toInt := by rw [hf_o107]; rfl
      have pl109 : (o79_x0.toInt = (tp_fld (f b56) 0)) ∧ (o79_x1.toInt = (tp_fld (f b56) 1)) ∧ (o79_x2.toInt = (tp_fld (f b56) 2)) ∧ (o79_x3.toInt = (tp_fld (f b56) 3)) ∧ (o79_x4.toInt = (tp_fld (f b56) 4)) ∧ (o79_x5.toInt = (tp_fld (f b56) 5)) ∧ (o79_x6.toInt = (tp_fld (f b56) 6)) ∧ (o91_x3.toInt = (tp_fld (f (ρ b56 12)) 3)) ∧ (o93_x3.toInt = (tp_fld (f (ρ b56 13)) 3)) ∧ (o95_x3.toInt = (tp_fld (f (ρ b56 14)) 3)) ∧ (o97_x2.toInt = (tp_fld (f (ρ b56 15)) 2)) ∧ (o101_x2.toInt = (tp_fld (f (ρ b56 16)) 2)) ∧ (o105_x2.toInt = (tp_fld (f (ρ b56 17)) 2)) ∧ (o107_x2.toInt = (tp_fld (f (ρ b56 18)) 2)) := by have q9 := hw76p; rw [tv80, tv81, tv82, tv83, tv84, tv85, tv86, tv92, tv94, tv96, tv98, tv102, tv106, tv108] at q9; exact q9
      refine lv_aload_n hx hb dX11_back_50 rfl (lv_at hl 0 rfl) ?_
      refine lv_iconst (v := 0) hx hb dX11_back_51 (by decide) ?_
      have hf_110 : f77 h0 = .inr (11, [.ref (ρ h0 0), .ref (ρ h0 1), .ref (ρ h0 2), .ref (ρ h0 3), .ref (ρ h0 4), .ref (ρ h0 5), .int o47_x6]) := (hF78 _ (by rw [ht_h0]; decide)).trans hf_o47
      refine tpk_pos (tp_in hG ht_h0 (by decide)) hf_110 (fun q111 eq111 => ?_)
      have hFc := tp_fr hD hS hA
      refine va_calli (va_runV (As := [.int 0]) (rest := []) ⟨hx, hb, hml, hown, hts⟩ (t_X11_accept l dC dI _ Ω κ τ ν ρ L f77 hG hT h0 (0) ht_h0) (cwV 1 hts gX11_back_X11_accept rfl rfl rfl ⟨rfl, pd_X11_accept⟩ ⟨Nat.le_of_ble_eq_true rfl, Nat.le_of_ble_eq_true rfl⟩) ⟨pz_blind, va_recv hK hP (ci := 11) (q0 := q111) rfl eq111, pz_pre hP hK hD hN⟩ rfl rfl hl.1 rfl (lv_room (Nat.le_of_ble_eq_true rfl)) dX11_back_52 ⟨Nat.le_of_ble_eq_true rfl, Nat.le_of_ble_eq_true rfl⟩) hS (fun q _ h => hFc q h) hFc (fun r112 f114 t H1 locs ht hvm hw113 hB hz1 hk1 hS => ?_)
      refine tn_4 hw113 (fun hT hF115 hw113r hw113p => ?_); clear hw113
      have hR := hR.then hF115 (by decide)
      have hX := hX.fr hF115 (by decide)
      have hP := hB.1; rw [ht] at hP; have hD := tp_ad f114 hD; clear hB hFc hz1 hk1; subst ht; generalize t.heap = H at hP hS ⊢
      have hw113pq : r112.toInt = 0 := by rw [hw113p]; rfl
      have hf_116 : f114 (ρ h0 0) = .inr (10, [.int o79_x0, .int o79_x1, .int o79_x2, .int o79_x3, .int o79_x4, .int o79_x5, .int o79_x6, .ref (ρ (ρ h0 0) 7), .ref (ρ (ρ h0 0) 8), .ref (ρ (ρ h0 0) 9), .ref (ρ (ρ h0 0) 10), .ref (ρ (ρ h0 0) 11), .ref (ρ (ρ h0 0) 12), .ref (ρ (ρ h0 0) 13), .ref (ρ (ρ h0 0) 14), .ref (ρ (ρ h0 0) 15), .ref (ρ (ρ h0 0) 16), .ref (ρ (ρ h0 0) 17), .ref (ρ (ρ h0 0) 18)]) := (hF115 _ (by rw [tp_iu y1]; decide)).trans hf_o79
      have tv117 : tp_fld (f114 (ρ h0 0)) 0 = o79_x0.toInt := by rw [hf_116]; rfl
      have tv118 : tp_fld (f114 (ρ h0 0)) 4 = o79_x4.toInt := by rw [hf_116]; rfl
      have tv119 : tp_fld (f114 (ρ h0 0)) 5 = o79_x5.toInt := by rw [hf_116]; rfl
      have hf_120 : f114 (ρ (ρ h0 0) 13) = .inr (6, [.ref (ρ (ρ (ρ h0 0) 13) 0), .ref (ρ (ρ (ρ h0 0) 13) 1), .ref (ρ (ρ (ρ h0 0) 13) 2), .int o93_x3]) := (hF115 _ (by rw [tp_iu y14]; decide)).trans hf_o93
      have tv121 : tp_fld (f114 (ρ (ρ h0 0) 13)) 3 = o93_x3.toInt := by rw [hf_120]; rfl
      have hf_122 : f114 (ρ (ρ h0 0) 14) = .inr (6, [.ref (ρ (ρ (ρ h0 0) 14) 0), .ref (ρ (ρ (ρ h0 0) 14) 1), .ref (ρ (ρ (ρ h0 0) 14) 2), .int o95_x3]) := (hF115 _ (by rw [tp_iu y15]; decide)).trans hf_o95
      have tv123 : tp_fld (f114 (ρ (ρ h0 0) 14)) 3 = o95_x3.toInt := by rw [hf_122]; rfl
      have hf_124 : f114 (ρ (ρ h0 0) 15) = .inr (4, [.int o97_x0, .ref (ρ (ρ (ρ h0 0) 15) 1), .int o97_x2]) := (hF115 _ (by rw [tp_iu y16]; decide)).trans hf_o97
      have tv125 : tp_fld (f114 (ρ (ρ h0 0) 15)) 2 = o97_x2.toInt := by rw [hf_124]; rfl
      have hf_126 : f114 (ρ (ρ h0 0) 18) = .inr (4, [.int o107_x0, .ref (ρ (ρ (ρ h0 0) 18) 1), .int o107_x2]) := (hF115 _ (by rw [tp_iu y19]; decide)).trans hf_o107
      have tv127 : tp_fld (f114 (ρ (ρ h0 0) 18)) 2 = o107_x2.toInt := by rw [hf_126]; rfl
      exact W.iret (v := r112) hx hb hr (fun t ht hW => ⟨⟨r112, f114, rfl, ⟨hT, hR, trivial, ⟨hX, ⟨fun q => by exfalso; omega, fun _ h => (by rw [im46, hq57] at h; cases h), fun _ b hb => by rw [im46, hq57] at hb; obtain rfl := Option.some.inj hb; exact ⟨by omega, (by unfold tp_V; rw [tv117, tv118, tv119, tv121, tv123, tv125, tv127]; have q9 := pl109; exact ⟨by omega, by omega, by omega, by omega, by omega, by omega, by omega⟩)⟩⟩⟩⟩, by rw [ht]; exact hP, va_K.moved hW.alike hK, hD⟩, hS.F ht⟩) hS.2.2 dX11_back_55
  · have ic53 : r51.toInt = 0 := zi_nef rfl rfl c53
    have p128 : ¬ ((0) ≤ (v.toInt) ∧ (v.toInt) ≤ (1)) := (tp_cond.no hw52p) (by omega)
    clear hw52r ic53
    refine lv_aload_n hx hb dX11_back_15 rfl (lv_at hl 0 rfl) ?_
    refine lv_iconst (v := (-1)) hx hb dX11_back_16 (by decide) ?_
    have hFc := tp_fr hD hS hA
    refine va_calli (va_runV (As := [.int (-1)]) (rest := []) ⟨hx, hb, hml, hown, hts⟩ (t_X11_refuse l dC dI _ Ω κ τ ν ρ L f hG hT h0 ((-1)) ht_h0) (cwV 1 hts gX11_back_X11_refuse rfl rfl rfl ⟨rfl, pd_X11_refuse⟩ ⟨Nat.le_of_ble_eq_true rfl, Nat.le_of_ble_eq_true rfl⟩) ⟨pz_blind, va_recv hK hP (ci := 11) (q0 := q48) rfl eq48, pz_pre hP hK hD hN⟩ rfl rfl hl.1 rfl (lv_room (Nat.le_of_ble_eq_true rfl)) dX11_back_17 ⟨Nat.le_of_ble_eq_true rfl, Nat.le_of_ble_eq_true rfl⟩) hS (fun q _ h => hFc q h) hFc (fun r129 f131 t H1 locs ht hvm hw130 hB hz1 hk1 hS => ?_)
    refine tn_4 hw130 (fun hT hF132 hw130r hw130p => ?_); clear hw130
    have hR := hR.then hF132 (by decide)
    have hX := hX.fr hF132 (by decide)
    have hP := hB.1; rw [ht] at hP; have hD := tp_ad f131 hD; clear hB hFc hz1 hk1; subst ht; generalize t.heap = H at hP hS ⊢
    have hw130pq : r129.toInt = (-1) := by rw [hw130p]; rfl
    have hf_133 : f131 (ρ h0 0) = .inr (10, [.int o20_x0, .int o20_x1, .int o20_x2, .int o20_x3, .int o20_x4, .int o20_x5, .int o20_x6, .ref (ρ (ρ h0 0) 7), .ref (ρ (ρ h0 0) 8), .ref (ρ (ρ h0 0) 9), .ref (ρ (ρ h0 0) 10), .ref (ρ (ρ h0 0) 11), .ref (ρ (ρ h0 0) 12), .ref (ρ (ρ h0 0) 13), .ref (ρ (ρ h0 0) 14), .ref (ρ (ρ h0 0) 15), .ref (ρ (ρ h0 0) 16), .ref (ρ (ρ h0 0) 17), .ref (ρ (ρ h0 0) 18)]) := (hF132 _ (by rw [tp_iu y1]; decide)).trans hf_o20
    have tv134 : tp_fld (f131 (ρ h0 0)) 0 = o20_x0.toInt := by rw [hf_133]; rfl
    have tv135 : tp_fld (f131 (ρ h0 0)) 4 = o20_x4.toInt := by rw [hf_133]; rfl
    have tv136 : tp_fld (f131 (ρ h0 0)) 5 = o20_x5.toInt := by rw [hf_133]; rfl
    have hf_137 : f131 (ρ (ρ h0 0) 13) = .inr (6, [.ref (ρ (ρ (ρ h0 0) 13) 0), .ref (ρ (ρ (ρ h0 0) 13) 1), .ref (ρ (ρ (ρ h0 0) 13) 2), .int o28_x3]) := (hF132 _ (by rw [tp_iu y14]; decide)).trans hf_o28
    have tv138 : tp_fld (f131 (ρ (ρ h0 0) 13)) 3 = o28_x3.toInt := by rw [hf_137]; rfl
    have hf_139 : f131 (ρ (ρ h0 0) 14) = .inr (6, [.ref (ρ (ρ (ρ h0 0) 14) 0), .ref (ρ (ρ (ρ h0 0) 14) 1), .ref (ρ (ρ (ρ h0 0) 14) 2), .int o34_x3]) := (hF132 _ (by rw [tp_iu y15]; decide)).trans hf_o34
    have tv140 : tp_fld (f131 (ρ (ρ h0 0) 14)) 3 = o34_x3.toInt := by rw [hf_139]; rfl
    have hf_141 : f131 (ρ (ρ h0 0) 15) = .inr (4, [.int o38_x0, .ref (ρ (ρ (ρ h0 0) 15) 1), .int o38_x2]) := (hF132 _ (by rw [tp_iu y16]; decide)).trans hf_o38
    have tv142 : tp_fld (f131 (ρ (ρ h0 0) 15)) 2 = o38_x2.toInt := by rw [hf_141]; rfl
    have hf_143 : f131 (ρ (ρ h0 0) 18) = .inr (4, [.int o42_x0, .ref (ρ (ρ (ρ h0 0) 18) 1), .int o42_x2]) := (hF132 _ (by rw [tp_iu y19]; decide)).trans hf_o42
    have tv144 : tp_fld (f131 (ρ (ρ h0 0) 18)) 2 = o42_x2.toInt := by rw [hf_143]; rfl
    exact W.iret (v := r129) hx hb hr (fun t ht hW => ⟨⟨r129, f131, rfl, ⟨hT, hR, trivial, ⟨hX, ⟨fun _ => ⟨by omega, (by unfold tp_V; rw [tv134, tv135, tv136, tv138, tv140, tv142, tv144, tv21, tv22, tv23, tv29, tv35, tv39, tv43]; exact ⟨rfl, rfl, rfl, rfl, rfl, rfl, rfl⟩)⟩, fun q => by exfalso; omega, fun q => by exfalso; omega⟩⟩⟩, by rw [ht]; exact hP, va_K.moved hW.alike hK, hD⟩, hS.F ht⟩) hS.2.2 dX11_back_20
set_option maxHeartbeats 4000000 in
set_option maxRecDepth 100000 in
theorem t_X11_count (l : Launch) (dC : Nat → ClassId) (dI : Nat → Nat → Nat) (sz : Nat) (Ω : Nat → Nat → (Nat → Nat) → va_E → Prop) (κ : Nat → ClassId) (τ ν : Nat → Nat) (ρ : Nat → Nat → Nat) (L : List Nat) (f : Nat → va_E) (hG : tp_G τ ν ρ L) (hT : tp_T Ω κ τ ν ρ f) (h0 : Nat) (v : Int32) (ht_h0 : τ h0 = 12) : Met l yX11_count wqX11_count ({ frames := 2, cells := 0, slots := 0, locals := 400 }) (va_Pc [.ref h0, .int v] (pz_B dC dI (tp_K κ) (va_pl L f) sz)) (va_Qi (fun (r : Int32) (f1 : Nat → va_E) => tp_T Ω κ τ ν ρ f1 ∧ tp_F τ [] f f1 ∧ True ∧ True) (fun (f1 : Nat → va_E) (t : State) => pz_E dC dI (tp_K κ) (va_A (va_pl L f) sz) (va_pl L f1) t) (va_A (va_pl L f) sz)) 0 0 (va_A (va_pl L f) sz) := by
  refine Met.ofW (cc := cX11_count) (maxL := 2) (ret := some .int) (by decide) rfl ?_
  intro p e s m args below meth c s₁ B hml hv
  obtain ⟨rfl, hsz, hP, hK, hD0, hN⟩ := hv
  have hx := B.exec
  have hb := B.bytes
  have hr := B.returns
  have hts := fun (w : Cond) (h : w ∈ WALL) => atoms_spec (ws := wqX11_count) B.pre w (List.mem_cons_of_mem _ h)
  have hown : s.vm.findClass RX11 = some m.cls := findClass_of_methodNamed B.named
  have hlocks := B.notSynchronized
  subst hsz
  have hD := hD0.self (sz := s.heap.size)
  generalize hAe : va_A (va_pl L f) s.heap.size = A at hD ⊢
  have hA : ∀ q : Nat, s.heap.size ≤ q → A q := fun q h => by rw [← hAe]; exact Or.inr h
  have hS : va_S A s.heap s.heap [] := va_S.rf
  have hR : tp_F τ [] f f := tp_F.rf
  have hl := lv_entry ([.ref h0, .int v]) (n := 2) (Nat.le_of_ble_eq_true rfl)
  rw [lg_entry_eq]
  generalize (lg_sl ([.ref h0, .int v]) ++ List.replicate (2 - (lg_sl ([.ref h0, .int v])).length) Slot.unset).toArray = ls at hl ⊢
  have hl : lv_has ls 2 [(0, .ref h0), (1, .int v)] := hl
  refine lv_iload_n hx hb dX11_count_0 rfl (lv_at hl 1 rfl) ?_
  rcases zi_sw v 0 8 with h1 | h1
  · refine lv_tableOut (tgt := 136) hx hb dX11_count_1 h1 (by decide) ?_
    refine lv_iconst (v := (-1)) hx hb dX11_count_136 (by decide) ?_
    exact W.iret (v := (-1)) hx hb hr (fun t ht hW => ⟨⟨(-1), f, rfl, ⟨hT, hR, trivial, trivial⟩, by rw [ht]; exact hP, va_K.moved hW.alike hK, hD⟩, hS.F ht⟩) hS.2.2 dX11_count_137
  · rcases (show v.toInt = 0 ∨ v.toInt = 1 ∨ v.toInt = 2 ∨ v.toInt = 3 ∨ v.toInt = 4 ∨ v.toInt = 5 ∨ v.toInt = 6 ∨ v.toInt = 7 ∨ v.toInt = 8 by omega) with h1k | h1k | h1k | h1k | h1k | h1k | h1k | h1k | h1k
    · refine lv_tableIn (tgt := 52) hx hb dX11_count_1 (by omega) (by omega) (by rw [h1k]; rfl) (by decide) ?_
      refine lv_aload_n hx hb dX11_count_52 rfl (lv_at hl 0 rfl) ?_
      refine tgk_12 hG ht_h0 (fun y2 y2l y3 y4 y5 y6 y7 y8a y8b y8c => ?_)
      refine tpk_12 hT ht_h0 (fun o9_x6 hf_o9 => ?_)
      refine tpk_pos (tp_in hG ht_h0 (by decide)) hf_o9 (fun q10 eq10 => ?_)
      refine va_get (D := (dC, dI)) (ci := 11) (v := .ref (ρ h0 0)) (C := RX11) (T := TX11) (N := 7) hx hb hts hfX11 hown hK hP q10 eq10 rfl 0 (by decide) (hts (.fieldLink RX11 10 "ColdShips" "world" "LColdShips$World;") wa_15) (fun _ h9 => h9) rfl dX11_count_53 ?_
      refine tgk_11 hG y2 (fun y11 y11n y12 y12n y13 y14 y15 y16 y16m y16l y17 y17m y17l y18 y18m y18l y19 y19w y19m y19l y20 y20w y20m y20l y21 y21w y21m y21l y22 y22w y22m y22l => ?_)
      refine tpk_11 hT y2 (fun o23_x0 o23_x1 o23_x2 o23_x3 o23_x4 o23_x5 o23_x6 hf_o23 ro23_0 ro23_1 ro23_2 ro23_3 => ?_)
      refine tpk_pos (tp_in hG y2 (by decide)) hf_o23 (fun q24 eq24 => ?_)
      have ro23_0 := tp_hu ro23_0
      refine va_getN (D := (dC, dI)) (ci := 10) (v := .int o23_x0) (C := RX10) (T := TX10) (N := 19) hx hb hts hfX10 hown hK hP q24 eq24 rfl 0 (by decide) (va_Nw.use rfl (hN.1 (.fieldLinkNest RX11 154 "ColdShips$World" "now" "I" "ColdShips") nzw_49)) (fun _ h9 => h9) rfl dX11_count_56 ?_
      exact W.iret (v := o23_x0) hx hb hr (fun t ht hW => ⟨⟨o23_x0, f, rfl, ⟨hT, hR, trivial, trivial⟩, by rw [ht]; exact hP, va_K.moved hW.alike hK, hD⟩, hS.F ht⟩) hS.2.2 dX11_count_59
    · refine lv_tableIn (tgt := 60) hx hb dX11_count_1 (by omega) (by omega) (by rw [h1k]; rfl) (by decide) ?_
      refine lv_aload_n hx hb dX11_count_60 rfl (lv_at hl 0 rfl) ?_
      refine tgk_12 hG ht_h0 (fun y25 y25l y26 y27 y28 y29 y30 y31a y31b y31c => ?_)
      refine tpk_12 hT ht_h0 (fun o32_x6 hf_o32 => ?_)
      refine tpk_pos (tp_in hG ht_h0 (by decide)) hf_o32 (fun q33 eq33 => ?_)
      refine va_get (D := (dC, dI)) (ci := 11) (v := .ref (ρ h0 0)) (C := RX11) (T := TX11) (N := 7) hx hb hts hfX11 hown hK hP q33 eq33 rfl 0 (by decide) (hts (.fieldLink RX11 10 "ColdShips" "world" "LColdShips$World;") wa_15) (fun _ h9 => h9) rfl dX11_count_61 ?_
      refine tgk_11 hG y25 (fun y34 y34n y35 y35n y36 y37 y38 y39 y39m y39l y40 y40m y40l y41 y41m y41l y42 y42w y42m y42l y43 y43w y43m y43l y44 y44w y44m y44l y45 y45w y45m y45l => ?_)
      refine tpk_11 hT y25 (fun o46_x0 o46_x1 o46_x2 o46_x3 o46_x4 o46_x5 o46_x6 hf_o46 ro46_0 ro46_1 ro46_2 ro46_3 => ?_)
      refine tpk_pos (tp_in hG y25 (by decide)) hf_o46 (fun q47 eq47 => ?_)
      have ro46_1 := tp_hu ro46_1
      refine va_getN (D := (dC, dI)) (ci := 10) (v := .int o46_x4) (C := RX10) (T := TX10) (N := 19) hx hb hts hfX10 hown hK hP q47 eq47 rfl 4 (by decide) (va_Nw.use rfl (hN.1 (.fieldLinkNest RX11 59 "ColdShips$World" "terminalCount" "I" "ColdShips") nzw_56)) (fun _ h9 => h9) rfl dX11_count_64 ?_
      exact W.iret (v := o46_x4) hx hb hr (fun t ht hW => ⟨⟨o46_x4, f, rfl, ⟨hT, hR, trivial, trivial⟩, by rw [ht]; exact hP, va_K.moved hW.alike hK, hD⟩, hS.F ht⟩) hS.2.2 dX11_count_67
    · refine lv_tableIn (tgt := 68) hx hb dX11_count_1 (by omega) (by omega) (by rw [h1k]; rfl) (by decide) ?_
      refine lv_aload_n hx hb dX11_count_68 rfl (lv_at hl 0 rfl) ?_
      refine tgk_12 hG ht_h0 (fun y48 y48l y49 y50 y51 y52 y53 y54a y54b y54c => ?_)
      refine tpk_12 hT ht_h0 (fun o55_x6 hf_o55 => ?_)
      refine tpk_pos (tp_in hG ht_h0 (by decide)) hf_o55 (fun q56 eq56 => ?_)
      refine va_get (D := (dC, dI)) (ci := 11) (v := .ref (ρ h0 0)) (C := RX11) (T := TX11) (N := 7) hx hb hts hfX11 hown hK hP q56 eq56 rfl 0 (by decide) (hts (.fieldLink RX11 10 "ColdShips" "world" "LColdShips$World;") wa_15) (fun _ h9 => h9) rfl dX11_count_69 ?_
      refine tgk_11 hG y48 (fun y57 y57n y58 y58n y59 y60 y61 y62 y62m y62l y63 y63m y63l y64 y64m y64l y65 y65w y65m y65l y66 y66w y66m y66l y67 y67w y67m y67l y68 y68w y68m y68l => ?_)
      refine tpk_11 hT y48 (fun o69_x0 o69_x1 o69_x2 o69_x3 o69_x4 o69_x5 o69_x6 hf_o69 ro69_0 ro69_1 ro69_2 ro69_3 => ?_)
      refine tpk_pos (tp_in hG y48 (by decide)) hf_o69 (fun q70 eq70 => ?_)
      have ro69_2 := tp_hu ro69_2
      refine va_getN (D := (dC, dI)) (ci := 10) (v := .int o69_x5) (C := RX10) (T := TX10) (N := 19) hx hb hts hfX10 hown hK hP q70 eq70 rfl 5 (by decide) (va_Nw.use rfl (hN.1 (.fieldLinkNest RX11 81 "ColdShips$World" "shipCount" "I" "ColdShips") nzw_58)) (fun _ h9 => h9) rfl dX11_count_72 ?_
      exact W.iret (v := o69_x5) hx hb hr (fun t ht hW => ⟨⟨o69_x5, f, rfl, ⟨hT, hR, trivial, trivial⟩, by rw [ht]; exact hP, va_K.moved hW.alike hK, hD⟩, hS.F ht⟩) hS.2.2 dX11_count_75
    · refine lv_tableIn (tgt := 76) hx hb dX11_count_1 (by omega) (by omega) (by rw [h1k]; rfl) (by decide) ?_
      refine lv_aload_n hx hb dX11_count_76 rfl (lv_at hl 0 rfl) ?_
      refine tgk_12 hG ht_h0 (fun y71 y71l y72 y73 y74 y75 y76 y77a y77b y77c => ?_)
      refine tpk_12 hT ht_h0 (fun o78_x6 hf_o78 => ?_)
      refine tpk_pos (tp_in hG ht_h0 (by decide)) hf_o78 (fun q79 eq79 => ?_)
      refine va_get (D := (dC, dI)) (ci := 11) (v := .ref (ρ h0 0)) (C := RX11) (T := TX11) (N := 7) hx hb hts hfX11 hown hK hP q79 eq79 rfl 0 (by decide) (hts (.fieldLink RX11 10 "ColdShips" "world" "LColdShips$World;") wa_15) (fun _ h9 => h9) rfl dX11_count_77 ?_
      refine tgk_11 hG y71 (fun y80 y80n y81 y81n y82 y83 y84 y85 y85m y85l y86 y86m y86l y87 y87m y87l y88 y88w y88m y88l y89 y89w y89m y89l y90 y90w y90m y90l y91 y91w y91m y91l => ?_)
      refine tpk_11 hT y71 (fun o92_x0 o92_x1 o92_x2 o92_x3 o92_x4 o92_x5 o92_x6 hf_o92 ro92_0 ro92_1 ro92_2 ro92_3 => ?_)
      refine tpk_pos (tp_in hG y71 (by decide)) hf_o92 (fun q93 eq93 => ?_)
      refine va_getN (D := (dC, dI)) (ci := 10) (v := .ref (ρ (ρ h0 0) 12)) (C := RX10) (T := TX10) (N := 19) hx hb hts hfX10 hown hK hP q93 eq93 rfl 12 (by decide) (va_Nw.use rfl (hN.1 (.fieldLinkNest RX11 111 "ColdShips$World" "slots" "LColdShips$Spans;" "ColdShips") nzw_74)) (fun _ h9 => h9) rfl dX11_count_80 ?_
      refine tgk_7 hG y85 (fun y94 y94n y95 y95n y96 y96n y97a y97b => ?_)
      refine tpk_7 hT y85 (fun o98_x3 hf_o98 ro98_0 => ?_)
      refine tpk_pos (tp_in hG y85 (by decide)) hf_o98 (fun q99 eq99 => ?_)
      have ro98_0 := tp_hu ro98_0
      refine va_getN (D := (dC, dI)) (ci := 6) (v := .int o98_x3) (C := RX6) (T := TX6) (N := 4) hx hb hts hfX6 hown hK hP q99 eq99 rfl 3 (by decide) (va_Nw.use rfl (hN.1 (.fieldLinkNest RX11 353 "ColdShips$Spans" "size" "I" "ColdShips") nzw_0)) (fun _ h9 => h9) rfl dX11_count_83 ?_
      exact W.iret (v := o98_x3) hx hb hr (fun t ht hW => ⟨⟨o98_x3, f, rfl, ⟨hT, hR, trivial, trivial⟩, by rw [ht]; exact hP, va_K.moved hW.alike hK, hD⟩, hS.F ht⟩) hS.2.2 dX11_count_86
    · refine lv_tableIn (tgt := 87) hx hb dX11_count_1 (by omega) (by omega) (by rw [h1k]; rfl) (by decide) ?_
      refine lv_aload_n hx hb dX11_count_87 rfl (lv_at hl 0 rfl) ?_
      refine tgk_12 hG ht_h0 (fun y100 y100l y101 y102 y103 y104 y105 y106a y106b y106c => ?_)
      refine tpk_12 hT ht_h0 (fun o107_x6 hf_o107 => ?_)
      refine tpk_pos (tp_in hG ht_h0 (by decide)) hf_o107 (fun q108 eq108 => ?_)
      refine va_get (D := (dC, dI)) (ci := 11) (v := .ref (ρ h0 0)) (C := RX11) (T := TX11) (N := 7) hx hb hts hfX11 hown hK hP q108 eq108 rfl 0 (by decide) (hts (.fieldLink RX11 10 "ColdShips" "world" "LColdShips$World;") wa_15) (fun _ h9 => h9) rfl dX11_count_88 ?_
      refine tgk_11 hG y100 (fun y109 y109n y110 y110n y111 y112 y113 y114 y114m y114l y115 y115m y115l y116 y116m y116l y117 y117w y117m y117l y118 y118w y118m y118l y119 y119w y119m y119l y120 y120w y120m y120l => ?_)
      refine tpk_11 hT y100 (fun o121_x0 o121_x1 o121_x2 o121_x3 o121_x4 o121_x5 o121_x6 hf_o121 ro121_0 ro121_1 ro121_2 ro121_3 => ?_)
      refine tpk_pos (tp_in hG y100 (by decide)) hf_o121 (fun q122 eq122 => ?_)
      refine va_getN (D := (dC, dI)) (ci := 10) (v := .ref (ρ (ρ h0 0) 17)) (C := RX10) (T := TX10) (N := 19) hx hb hts hfX10 hown hK hP q122 eq122 rfl 17 (by decide) (va_Nw.use rfl (hN.1 (.fieldLinkNest RX11 207 "ColdShips$World" "landings" "LColdShips$Rows;" "ColdShips") nzw_85)) (fun _ h9 => h9) rfl dX11_count_91 ?_
      refine tgk_5 hG y119 (fun y123 y123n y124a y124b y124c => ?_)
      refine tpk_5 hT y119 (fun o125_x0 o125_x2 hf_o125 ro125_0 ro125_1 => ?_)
      refine tpk_pos (tp_in hG y119 (by decide)) hf_o125 (fun q126 eq126 => ?_)
      have ro125_1 := tp_hu ro125_1
      refine va_getN (D := (dC, dI)) (ci := 4) (v := .int o125_x2) (C := RX4) (T := TX4) (N := 3) hx hb hts hfX4 hown hK hP q126 eq126 rfl 2 (by decide) (va_Nw.use rfl (hN.1 (.fieldLinkNest RX11 242 "ColdShips$Rows" "size" "I" "ColdShips") nzw_4)) (fun _ h9 => h9) rfl dX11_count_94 ?_
      exact W.iret (v := o125_x2) hx hb hr (fun t ht hW => ⟨⟨o125_x2, f, rfl, ⟨hT, hR, trivial, trivial⟩, by rw [ht]; exact hP, va_K.moved hW.alike hK, hD⟩, hS.F ht⟩) hS.2.2 dX11_count_97
    · refine lv_tableIn (tgt := 98) hx hb dX11_count_1 (by omega) (by omega) (by rw [h1k]; rfl) (by decide) ?_
      refine lv_aload_n hx hb dX11_count_98 rfl (lv_at hl 0 rfl) ?_
      refine tgk_12 hG ht_h0 (fun y127 y127l y128 y129 y130 y131 y132 y133a y133b y133c => ?_)
      refine tpk_12 hT ht_h0 (fun o134_x6 hf_o134 => ?_)
      refine tpk_pos (tp_in hG ht_h0 (by decide)) hf_o134 (fun q135 eq135 => ?_)
      refine va_get (D := (dC, dI)) (ci := 11) (v := .ref (ρ h0 0)) (C := RX11) (T := TX11) (N := 7) hx hb hts hfX11 hown hK hP q135 eq135 rfl 0 (by decide) (hts (.fieldLink RX11 10 "ColdShips" "world" "LColdShips$World;") wa_15) (fun _ h9 => h9) rfl dX11_count_99 ?_
      refine tgk_11 hG y127 (fun y136 y136n y137 y137n y138 y139 y140 y141 y141m y141l y142 y142m y142l y143 y143m y143l y144 y144w y144m y144l y145 y145w y145m y145l y146 y146w y146m y146l y147 y147w y147m y147l => ?_)
      refine tpk_11 hT y127 (fun o148_x0 o148_x1 o148_x2 o148_x3 o148_x4 o148_x5 o148_x6 hf_o148 ro148_0 ro148_1 ro148_2 ro148_3 => ?_)
      refine tpk_pos (tp_in hG y127 (by decide)) hf_o148 (fun q149 eq149 => ?_)
      have ro148_3 := tp_hu ro148_3
      refine va_getN (D := (dC, dI)) (ci := 10) (v := .int o148_x6) (C := RX10) (T := TX10) (N := 19) hx hb hts hfX10 hown hK hP q149 eq149 rfl 6 (by decide) (va_Nw.use rfl (hN.1 (.fieldLinkNest RX11 261 "ColdShips$World" "contractCount" "I" "ColdShips") nzw_60)) (fun _ h9 => h9) rfl dX11_count_102 ?_
      exact W.iret (v := o148_x6) hx hb hr (fun t ht hW => ⟨⟨o148_x6, f, rfl, ⟨hT, hR, trivial, trivial⟩, by rw [ht]; exact hP, va_K.moved hW.alike hK, hD⟩, hS.F ht⟩) hS.2.2 dX11_count_105
    · refine lv_tableIn (tgt := 106) hx hb dX11_count_1 (by omega) (by omega) (by rw [h1k]; rfl) (by decide) ?_
      refine lv_aload_n hx hb dX11_count_106 rfl (lv_at hl 0 rfl) ?_
      refine tgk_12 hG ht_h0 (fun y150 y150l y151 y152 y153 y154 y155 y156a y156b y156c => ?_)
      refine tpk_12 hT ht_h0 (fun o157_x6 hf_o157 => ?_)
      refine tpk_pos (tp_in hG ht_h0 (by decide)) hf_o157 (fun q158 eq158 => ?_)
      refine va_get (D := (dC, dI)) (ci := 11) (v := .ref (ρ h0 0)) (C := RX11) (T := TX11) (N := 7) hx hb hts hfX11 hown hK hP q158 eq158 rfl 0 (by decide) (hts (.fieldLink RX11 10 "ColdShips" "world" "LColdShips$World;") wa_15) (fun _ h9 => h9) rfl dX11_count_107 ?_
      refine tgk_11 hG y150 (fun y159 y159n y160 y160n y161 y162 y163 y164 y164m y164l y165 y165m y165l y166 y166m y166l y167 y167w y167m y167l y168 y168w y168m y168l y169 y169w y169m y169l y170 y170w y170m y170l => ?_)
      refine tpk_11 hT y150 (fun o171_x0 o171_x1 o171_x2 o171_x3 o171_x4 o171_x5 o171_x6 hf_o171 ro171_0 ro171_1 ro171_2 ro171_3 => ?_)
      refine tpk_pos (tp_in hG y150 (by decide)) hf_o171 (fun q172 eq172 => ?_)
      refine va_getN (D := (dC, dI)) (ci := 10) (v := .ref (ρ (ρ h0 0) 18)) (C := RX10) (T := TX10) (N := 19) hx hb hts hfX10 hown hK hP q172 eq172 rfl 18 (by decide) (va_Nw.use rfl (hN.1 (.fieldLinkNest RX11 319 "ColdShips$World" "cargoes" "LColdShips$Rows;" "ColdShips") nzw_87)) (fun _ h9 => h9) rfl dX11_count_110 ?_
      refine tgk_5 hG y170 (fun y173 y173n y174a y174b y174c => ?_)
      refine tpk_5 hT y170 (fun o175_x0 o175_x2 hf_o175 ro175_0 ro175_1 => ?_)
      refine tpk_pos (tp_in hG y170 (by decide)) hf_o175 (fun q176 eq176 => ?_)
      have ro175_1 := tp_hu ro175_1
      refine va_getN (D := (dC, dI)) (ci := 4) (v := .int o175_x2) (C := RX4) (T := TX4) (N := 3) hx hb hts hfX4 hown hK hP q176 eq176 rfl 2 (by decide) (va_Nw.use rfl (hN.1 (.fieldLinkNest RX11 242 "ColdShips$Rows" "size" "I" "ColdShips") nzw_4)) (fun _ h9 => h9) rfl dX11_count_113 ?_
      exact W.iret (v := o175_x2) hx hb hr (fun t ht hW => ⟨⟨o175_x2, f, rfl, ⟨hT, hR, trivial, trivial⟩, by rw [ht]; exact hP, va_K.moved hW.alike hK, hD⟩, hS.F ht⟩) hS.2.2 dX11_count_116
    · refine lv_tableIn (tgt := 117) hx hb dX11_count_1 (by omega) (by omega) (by rw [h1k]; rfl) (by decide) ?_
      refine lv_aload_n hx hb dX11_count_117 rfl (lv_at hl 0 rfl) ?_
      refine tgk_12 hG ht_h0 (fun y177 y177l y178 y179 y180 y181 y182 y183a y183b y183c => ?_)
      refine tpk_12 hT ht_h0 (fun o184_x6 hf_o184 => ?_)
      refine tpk_pos (tp_in hG ht_h0 (by decide)) hf_o184 (fun q185 eq185 => ?_)
      refine va_get (D := (dC, dI)) (ci := 11) (v := .ref (ρ h0 0)) (C := RX11) (T := TX11) (N := 7) hx hb hts hfX11 hown hK hP q185 eq185 rfl 0 (by decide) (hts (.fieldLink RX11 10 "ColdShips" "world" "LColdShips$World;") wa_15) (fun _ h9 => h9) rfl dX11_count_118 ?_
      refine tgk_11 hG y177 (fun y186 y186n y187 y187n y188 y189 y190 y191 y191m y191l y192 y192m y192l y193 y193m y193l y194 y194w y194m y194l y195 y195w y195m y195l y196 y196w y196m y196l y197 y197w y197m y197l => ?_)
      refine tpk_11 hT y177 (fun o198_x0 o198_x1 o198_x2 o198_x3 o198_x4 o198_x5 o198_x6 hf_o198 ro198_0 ro198_1 ro198_2 ro198_3 => ?_)
      refine tpk_pos (tp_in hG y177 (by decide)) hf_o198 (fun q199 eq199 => ?_)
      refine va_getN (D := (dC, dI)) (ci := 10) (v := .ref (ρ (ρ h0 0) 16)) (C := RX10) (T := TX10) (N := 19) hx hb hts hfX10 hown hK hP q199 eq199 rfl 16 (by decide) (va_Nw.use rfl (hN.1 (.fieldLinkNest RX11 306 "ColdShips$World" "readings" "LColdShips$Rows;" "ColdShips") nzw_82)) (fun _ h9 => h9) rfl dX11_count_121 ?_
      refine tgk_5 hG y195 (fun y200 y200n y201a y201b y201c => ?_)
      refine tpk_5 hT y195 (fun o202_x0 o202_x2 hf_o202 ro202_0 ro202_1 => ?_)
      refine tpk_pos (tp_in hG y195 (by decide)) hf_o202 (fun q203 eq203 => ?_)
      have ro202_1 := tp_hu ro202_1
      refine va_getN (D := (dC, dI)) (ci := 4) (v := .int o202_x2) (C := RX4) (T := TX4) (N := 3) hx hb hts hfX4 hown hK hP q203 eq203 rfl 2 (by decide) (va_Nw.use rfl (hN.1 (.fieldLinkNest RX11 242 "ColdShips$Rows" "size" "I" "ColdShips") nzw_4)) (fun _ h9 => h9) rfl dX11_count_124 ?_
      exact W.iret (v := o202_x2) hx hb hr (fun t ht hW => ⟨⟨o202_x2, f, rfl, ⟨hT, hR, trivial, trivial⟩, by rw [ht]; exact hP, va_K.moved hW.alike hK, hD⟩, hS.F ht⟩) hS.2.2 dX11_count_127
    · refine lv_tableIn (tgt := 128) hx hb dX11_count_1 (by omega) (by omega) (by rw [h1k]; rfl) (by decide) ?_
      refine lv_aload_n hx hb dX11_count_128 rfl (lv_at hl 0 rfl) ?_
      refine tgk_12 hG ht_h0 (fun y204 y204l y205 y206 y207 y208 y209 y210a y210b y210c => ?_)
      refine tpk_12 hT ht_h0 (fun o211_x6 hf_o211 => ?_)
      refine tpk_pos (tp_in hG ht_h0 (by decide)) hf_o211 (fun q212 eq212 => ?_)
      refine va_get (D := (dC, dI)) (ci := 11) (v := .ref (ρ h0 3)) (C := RX11) (T := TX11) (N := 7) hx hb hts hfX11 hown hK hP q212 eq212 rfl 3 (by decide) (hts (.fieldLink RX11 32 "ColdShips" "reader" "LColdShips$Reader;") wa_24) (fun _ h9 => h9) rfl dX11_count_129 ?_
      refine tgk_3 hG y207 (fun y213 y213n y214 y214n y215 y215n => ?_)
      refine tpk_3 hT y207 (fun o216_x1 o216_x2 o216_x3 o216_x4 o216_x5 o216_x6 o216_x8 o216_x10 o216_x11 o216_x12 o216_x13 o216_x14 o216_x15 hf_o216 ro216_0 ro216_1 ro216_2 ro216_3 ro216_4 ro216_5 ro216_6 => ?_)
      refine tpk_pos (tp_in hG y207 (by decide)) hf_o216 (fun q217 eq217 => ?_)
      have ro216_0 := tp_hu ro216_0
      refine va_getN (D := (dC, dI)) (ci := 2) (v := .int o216_x1) (C := RX2) (T := TX2) (N := 16) hx hb hts hfX2 hown hK hP q217 eq217 rfl 1 (by decide) (va_Nw.use rfl (hN.1 (.fieldLinkNest RX11 260 "ColdShips$Reader" "size" "I" "ColdShips") nzw_88)) (fun _ h9 => h9) rfl dX11_count_132 ?_
      exact W.iret (v := o216_x1) hx hb hr (fun t ht hW => ⟨⟨o216_x1, f, rfl, ⟨hT, hR, trivial, trivial⟩, by rw [ht]; exact hP, va_K.moved hW.alike hK, hD⟩, hS.F ht⟩) hS.2.2 dX11_count_135
set_option maxHeartbeats 4000000 in
set_option maxRecDepth 100000 in
theorem t_X11_status (l : Launch) (dC : Nat → ClassId) (dI : Nat → Nat → Nat) (sz : Nat) (Ω : Nat → Nat → (Nat → Nat) → va_E → Prop) (κ : Nat → ClassId) (τ ν : Nat → Nat) (ρ : Nat → Nat → Nat) (L : List Nat) (f : Nat → va_E) (hG : tp_G τ ν ρ L) (hT : tp_T Ω κ τ ν ρ f) (h0 : Nat) (ht_h0 : τ h0 = 12) : Met l yX11_status wqX11_status ({ frames := 2, cells := 0, slots := 0, locals := 400 }) (va_Pc [.ref h0] (pz_B dC dI (tp_K κ) (va_pl L f) sz)) (va_Qi (fun (r : Int32) (f1 : Nat → va_E) => tp_T Ω κ τ ν ρ f1 ∧ tp_F τ [] f f1 ∧ True ∧ True) (fun (f1 : Nat → va_E) (t : State) => pz_E dC dI (tp_K κ) (va_A (va_pl L f) sz) (va_pl L f1) t) (va_A (va_pl L f) sz)) 0 0 (va_A (va_pl L f) sz) := by
  refine Met.ofW (cc := cX11_status) (maxL := 1) (ret := some .int) (by decide) rfl ?_
  intro p e s m args below meth c s₁ B hml hv
  obtain ⟨rfl, hsz, hP, hK, hD0, hN⟩ := hv
  have hx := B.exec
  have hb := B.bytes
  have hr := B.returns
  have hts := fun (w : Cond) (h : w ∈ WALL) => atoms_spec (ws := wqX11_status) B.pre w (List.mem_cons_of_mem _ h)
  have hown : s.vm.findClass RX11 = some m.cls := findClass_of_methodNamed B.named
  have hlocks := B.notSynchronized
  subst hsz
  have hD := hD0.self (sz := s.heap.size)
  generalize hAe : va_A (va_pl L f) s.heap.size = A at hD ⊢
  have hA : ∀ q : Nat, s.heap.size ≤ q → A q := fun q h => by rw [← hAe]; exact Or.inr h
  have hS : va_S A s.heap s.heap [] := va_S.rf
  have hR : tp_F τ [] f f := tp_F.rf
  have hl := lv_entry ([.ref h0]) (n := 1) (Nat.le_of_ble_eq_true rfl)
  rw [lg_entry_eq]
  generalize (lg_sl ([.ref h0]) ++ List.replicate (1 - (lg_sl ([.ref h0])).length) Slot.unset).toArray = ls at hl ⊢
  have hl : lv_has ls 1 [(0, .ref h0)] := hl
  refine lv_aload_n hx hb dX11_status_0 rfl (lv_at hl 0 rfl) ?_
  refine tgk_12 hG ht_h0 (fun y1 y1l y2 y3 y4 y5 y6 y7a y7b y7c => ?_)
  refine tpk_12 hT ht_h0 (fun o8_x6 hf_o8 => ?_)
  refine tpk_pos (tp_in hG ht_h0 (by decide)) hf_o8 (fun q9 eq9 => ?_)
  refine va_get (D := (dC, dI)) (ci := 11) (v := .int o8_x6) (C := RX11) (T := TX11) (N := 7) hx hb hts hfX11 hown hK hP q9 eq9 rfl 6 (by decide) (hts (.fieldLink RX11 354 "ColdShips" "refusal" "I") wa_187) (fun _ h9 => h9) rfl dX11_status_1 ?_
  exact W.iret (v := o8_x6) hx hb hr (fun t ht hW => ⟨⟨o8_x6, f, rfl, ⟨hT, hR, trivial, trivial⟩, by rw [ht]; exact hP, va_K.moved hW.alike hK, hD⟩, hS.F ht⟩) hS.2.2 dX11_status_4
end
section
theorem tp_cpy28 {g h : Nat → Int32} (hg : ∀ j : Nat, -1000 ≤ (g j).toInt ∧ (g j).toInt ≤ 100001) (hh : ∀ j : Nat, -1000 ≤ (h j).toInt ∧ (h j).toInt ≤ 100001) (a b n : Nat) : ∀ j : Nat, -1000 ≤ (va_cpy g h a b n j).toInt ∧ (va_cpy g h a b n j).toInt ≤ 100001 := by
  intro j; unfold va_cpy; split
  · exact hg _
  · exact hh _
end
section
theorem gX2_readTape_X2_advance : GoodIn WALL (wsV RX2 53 RX2 yX2_advance wqX2_advance) := wg_V wa_807 wa_808 wa_809 wa_23 wa_810
theorem gX2_readTape_X2_readClauses : GoodIn WALL (wsV RX2 56 RX2 yX2_readClauses wqX2_readClauses) := wg_V wa_821 wa_822 wa_823 wa_23 wa_824
theorem gX2_readTape_J7_copyOf_59c91 : GoodIn WALL (va_wsS RX2 65 yJ7_copyOf_59c91 wqJ7_copyOf_59c91) := wg_S wa_959 wa_960 wa_199 wa_961
theorem ggX2_readTape_X0_init : GoodIn WALL wqX0_init := wg_c wa_972
theorem dX2_readTape_0 : decode cX2_readTape 0 = .ok (.aload_n 0, 1) := od_42  (by decide +kernel)
theorem dX2_readTape_1 : decode cX2_readTape 1 = .ok (.iconst 0, 1) := od_3  (by decide +kernel)
theorem dX2_readTape_2 : decode cX2_readTape 2 = .ok (.putfield 29, 3) := od_181 (a := 0) (b := 29) (by decide +kernel) (by decide)
theorem dX2_readTape_5 : decode cX2_readTape 5 = .ok (.aload_n 0, 1) := od_42  (by decide +kernel)
theorem dX2_readTape_6 : decode cX2_readTape 6 = .ok (.iconst 0, 1) := od_3  (by decide +kernel)
theorem dX2_readTape_7 : decode cX2_readTape 7 = .ok (.putfield 32, 3) := od_181 (a := 0) (b := 32) (by decide +kernel) (by decide)
theorem dX2_readTape_10 : decode cX2_readTape 10 = .ok (.aload_n 0, 1) := od_42  (by decide +kernel)
theorem dX2_readTape_11 : decode cX2_readTape 11 = .ok (.iconst 0, 1) := od_3  (by decide +kernel)
theorem dX2_readTape_12 : decode cX2_readTape 12 = .ok (.putfield 35, 3) := od_181 (a := 0) (b := 35) (by decide +kernel) (by decide)
theorem dX2_readTape_15 : decode cX2_readTape 15 = .ok (.aload_n 0, 1) := od_42  (by decide +kernel)
theorem dX2_readTape_16 : decode cX2_readTape 16 = .ok (.iconst 0, 1) := od_3  (by decide +kernel)
theorem dX2_readTape_17 : decode cX2_readTape 17 = .ok (.putfield 38, 3) := od_181 (a := 0) (b := 38) (by decide +kernel) (by decide)
theorem dX2_readTape_20 : decode cX2_readTape 20 = .ok (.aload_n 0, 1) := od_42  (by decide +kernel)
theorem dX2_readTape_21 : decode cX2_readTape 21 = .ok (.iconst 0, 1) := od_3  (by decide +kernel)
theorem dX2_readTape_22 : decode cX2_readTape 22 = .ok (.putfield 41, 3) := od_181 (a := 0) (b := 41) (by decide +kernel) (by decide)
theorem dX2_readTape_25 : decode cX2_readTape 25 = .ok (.aload_n 0, 1) := od_42  (by decide +kernel)
theorem dX2_readTape_26 : decode cX2_readTape 26 = .ok (.iconst 0, 1) := od_3  (by decide +kernel)
theorem dX2_readTape_27 : decode cX2_readTape 27 = .ok (.putfield 44, 3) := od_181 (a := 0) (b := 44) (by decide +kernel) (by decide)
theorem dX2_readTape_30 : decode cX2_readTape 30 = .ok (.aload_n 0, 1) := od_42  (by decide +kernel)
theorem dX2_readTape_31 : decode cX2_readTape 31 = .ok (.sipush 2399, 3) := od_17 (a := 9) (b := 95) (by decide +kernel) (by decide +kernel)
theorem dX2_readTape_34 : decode cX2_readTape 34 = .ok (.putfield 47, 3) := od_181 (a := 0) (b := 47) (by decide +kernel) (by decide)
theorem dX2_readTape_37 : decode cX2_readTape 37 = .ok (.aload_n 0, 1) := od_42  (by decide +kernel)
theorem dX2_readTape_38 : decode cX2_readTape 38 = .ok (.iconst (-1), 1) := od_2  (by decide +kernel)
theorem dX2_readTape_39 : decode cX2_readTape 39 = .ok (.putfield 50, 3) := od_181 (a := 0) (b := 50) (by decide +kernel) (by decide)
theorem dX2_readTape_42 : decode cX2_readTape 42 = .ok (.aload_n 0, 1) := od_42  (by decide +kernel)
theorem dX2_readTape_43 : decode cX2_readTape 43 = .ok (.invokevirtual 53, 3) := od_182 (a := 0) (b := 53) (by decide +kernel) (by decide)
theorem dX2_readTape_46 : decode cX2_readTape 46 = .ok (.aload_n 0, 1) := od_42  (by decide +kernel)
theorem dX2_readTape_47 : decode cX2_readTape 47 = .ok (.invokevirtual 56, 3) := od_182 (a := 0) (b := 56) (by decide +kernel) (by decide)
theorem dX2_readTape_50 : decode cX2_readTape 50 = .ok (.istore_n 1, 1) := od_60  (by decide +kernel)
theorem dX2_readTape_51 : decode cX2_readTape 51 = .ok (.aload_n 0, 1) := od_42  (by decide +kernel)
theorem dX2_readTape_52 : decode cX2_readTape 52 = .ok (.iload_n 1, 1) := od_27  (by decide +kernel)
theorem dX2_readTape_53 : decode cX2_readTape 53 = .ok (.ifCond .eq 7, 3) := od_153 (a := 0) (b := 7) (by decide +kernel) (by decide +kernel)
theorem dX2_readTape_56 : decode cX2_readTape 56 = .ok (.iconst (-1), 1) := od_2  (by decide +kernel)
theorem dX2_readTape_57 : decode cX2_readTape 57 = .ok (.goto 7, 3) := od_167 (a := 0) (b := 7) (by decide +kernel) (by decide +kernel)
theorem dX2_readTape_60 : decode cX2_readTape 60 = .ok (.aload_n 0, 1) := od_42  (by decide +kernel)
theorem dX2_readTape_61 : decode cX2_readTape 61 = .ok (.getfield 60, 3) := od_180 (a := 0) (b := 60) (by decide +kernel) (by decide)
theorem dX2_readTape_64 : decode cX2_readTape 64 = .ok (.putfield 15, 3) := od_181 (a := 0) (b := 15) (by decide +kernel) (by decide)
theorem dX2_readTape_67 : decode cX2_readTape 67 = .ok (.iload_n 1, 1) := od_27  (by decide +kernel)
theorem dX2_readTape_68 : decode cX2_readTape 68 = .ok (.ifCond .ne 5, 3) := od_154 (a := 0) (b := 5) (by decide +kernel) (by decide +kernel)
theorem dX2_readTape_71 : decode cX2_readTape 71 = .ok (.aconst_null, 1) := od_1  (by decide +kernel)
theorem dX2_readTape_72 : decode cX2_readTape 72 = .ok (.areturn, 1) := od_176  (by decide +kernel)
theorem dX2_readTape_73 : decode cX2_readTape 73 = .ok (.aload_n 0, 1) := od_42  (by decide +kernel)
theorem dX2_readTape_74 : decode cX2_readTape 74 = .ok (.getfield 23, 3) := od_180 (a := 0) (b := 23) (by decide +kernel) (by decide)
theorem dX2_readTape_77 : decode cX2_readTape 77 = .ok (.aload_n 0, 1) := od_42  (by decide +kernel)
theorem dX2_readTape_78 : decode cX2_readTape 78 = .ok (.getfield 35, 3) := od_180 (a := 0) (b := 35) (by decide +kernel) (by decide)
theorem dX2_readTape_81 : decode cX2_readTape 81 = .ok (.aload_n 0, 1) := od_42  (by decide +kernel)
theorem dX2_readTape_82 : decode cX2_readTape 82 = .ok (.getfield 32, 3) := od_180 (a := 0) (b := 32) (by decide +kernel) (by decide)
theorem dX2_readTape_85 : decode cX2_readTape 85 = .ok (.iastore, 1) := od_79  (by decide +kernel)
theorem dX2_readTape_86 : decode cX2_readTape 86 = .ok (.new 63, 3) := od_187 (a := 0) (b := 63) (by decide +kernel) (by decide)
theorem dX2_readTape_89 : decode cX2_readTape 89 = .ok (.dup, 1) := od_89  (by decide +kernel)
theorem dX2_readTape_90 : decode cX2_readTape 90 = .ok (.aload_n 0, 1) := od_42  (by decide +kernel)
theorem dX2_readTape_91 : decode cX2_readTape 91 = .ok (.getfield 19, 3) := od_180 (a := 0) (b := 19) (by decide +kernel) (by decide)
theorem dX2_readTape_94 : decode cX2_readTape 94 = .ok (.aload_n 0, 1) := od_42  (by decide +kernel)
theorem dX2_readTape_95 : decode cX2_readTape 95 = .ok (.getfield 32, 3) := od_180 (a := 0) (b := 32) (by decide +kernel) (by decide)
theorem dX2_readTape_98 : decode cX2_readTape 98 = .ok (.invokestatic 65, 3) := od_184 (a := 0) (b := 65) (by decide +kernel) (by decide)
theorem dX2_readTape_101 : decode cX2_readTape 101 = .ok (.aload_n 0, 1) := od_42  (by decide +kernel)
theorem dX2_readTape_102 : decode cX2_readTape 102 = .ok (.getfield 23, 3) := od_180 (a := 0) (b := 23) (by decide +kernel) (by decide)
theorem dX2_readTape_105 : decode cX2_readTape 105 = .ok (.aload_n 0, 1) := od_42  (by decide +kernel)
theorem dX2_readTape_106 : decode cX2_readTape 106 = .ok (.getfield 35, 3) := od_180 (a := 0) (b := 35) (by decide +kernel) (by decide)
theorem dX2_readTape_109 : decode cX2_readTape 109 = .ok (.iconst 1, 1) := od_4  (by decide +kernel)
theorem dX2_readTape_110 : decode cX2_readTape 110 = .ok (.iadd, 1) := od_96  (by decide +kernel)
theorem dX2_readTape_111 : decode cX2_readTape 111 = .ok (.invokestatic 65, 3) := od_184 (a := 0) (b := 65) (by decide +kernel) (by decide)
theorem dX2_readTape_114 : decode cX2_readTape 114 = .ok (.aload_n 0, 1) := od_42  (by decide +kernel)
theorem dX2_readTape_115 : decode cX2_readTape 115 = .ok (.getfield 44, 3) := od_180 (a := 0) (b := 44) (by decide +kernel) (by decide)
theorem dX2_readTape_118 : decode cX2_readTape 118 = .ok (.aload_n 0, 1) := od_42  (by decide +kernel)
theorem dX2_readTape_119 : decode cX2_readTape 119 = .ok (.getfield 47, 3) := od_180 (a := 0) (b := 47) (by decide +kernel) (by decide)
theorem dX2_readTape_122 : decode cX2_readTape 122 = .ok (.aload_n 0, 1) := od_42  (by decide +kernel)
theorem dX2_readTape_123 : decode cX2_readTape 123 = .ok (.getfield 50, 3) := od_180 (a := 0) (b := 50) (by decide +kernel) (by decide)
theorem dX2_readTape_126 : decode cX2_readTape 126 = .ok (.invokespecial 71, 3) := od_183 (a := 0) (b := 71) (by decide +kernel) (by decide)
theorem dX2_readTape_129 : decode cX2_readTape 129 = .ok (.areturn, 1) := od_176  (by decide +kernel)
theorem gX11_contract_X2_readTape : GoodIn WALL (wsV RX11 264 RX2 yX2_readTape wqX2_readTape) := wg_V wa_791 wa_792 wa_793 wa_23 wa_794
theorem gX11_contract_X2_emptyTape : GoodIn WALL (wsV RX11 268 RX2 yX2_emptyTape wqX2_emptyTape) := wg_V wa_979 wa_980 wa_981 wa_23 wa_982
theorem gX11_contract_X11_refuse : GoodIn WALL (wsV RX11 55 RX11 yX11_refuse wqX11_refuse) := wg_V wa_183 wa_184 wa_185 wa_2 wa_186
theorem gX11_contract_X11_accept : GoodIn WALL (wsV RX11 73 RX11 yX11_accept wqX11_accept) := wg_V wa_201 wa_202 wa_203 wa_2 wa_204
theorem dX11_contract_0 : decode cX11_contract 0 = .ok (.aload_n 0, 1) := od_42  (by decide +kernel)
theorem dX11_contract_1 : decode cX11_contract 1 = .ok (.getfield 10, 3) := od_180 (a := 0) (b := 10) (by decide +kernel) (by decide)
theorem dX11_contract_4 : decode cX11_contract 4 = .ok (.getfield 261, 3) := od_180 (a := 1) (b := 5) (by decide +kernel) (by decide)
theorem dX11_contract_7 : decode cX11_contract 7 = .ok (.bipush 12, 2) := od_16 (a := 12) (by decide +kernel) (by decide +kernel)
theorem dX11_contract_9 : decode cX11_contract 9 = .ok (.if_icmp .ge 7, 3) := od_162 (a := 0) (b := 7) (by decide +kernel) (by decide +kernel)
theorem dX11_contract_12 : decode cX11_contract 12 = .ok (.iconst 1, 1) := od_4  (by decide +kernel)
theorem dX11_contract_13 : decode cX11_contract 13 = .ok (.goto 4, 3) := od_167 (a := 0) (b := 4) (by decide +kernel) (by decide +kernel)
theorem dX11_contract_16 : decode cX11_contract 16 = .ok (.iconst 0, 1) := od_3  (by decide +kernel)
theorem dX11_contract_17 : decode cX11_contract 17 = .ok (.istore_n 1, 1) := od_60  (by decide +kernel)
theorem dX11_contract_18 : decode cX11_contract 18 = .ok (.iload_n 1, 1) := od_27  (by decide +kernel)
theorem dX11_contract_19 : decode cX11_contract 19 = .ok (.ifCond .eq 13, 3) := od_153 (a := 0) (b := 13) (by decide +kernel) (by decide +kernel)
theorem dX11_contract_22 : decode cX11_contract 22 = .ok (.aload_n 0, 1) := od_42  (by decide +kernel)
theorem dX11_contract_23 : decode cX11_contract 23 = .ok (.getfield 32, 3) := od_180 (a := 0) (b := 32) (by decide +kernel) (by decide)
theorem dX11_contract_26 : decode cX11_contract 26 = .ok (.invokevirtual 264, 3) := od_182 (a := 1) (b := 8) (by decide +kernel) (by decide)
theorem dX11_contract_29 : decode cX11_contract 29 = .ok (.goto 4, 3) := od_167 (a := 0) (b := 4) (by decide +kernel) (by decide +kernel)
theorem dX11_contract_32 : decode cX11_contract 32 = .ok (.aconst_null, 1) := od_1  (by decide +kernel)
theorem dX11_contract_33 : decode cX11_contract 33 = .ok (.astore_n 2, 1) := od_77  (by decide +kernel)
theorem dX11_contract_34 : decode cX11_contract 34 = .ok (.aload_n 0, 1) := od_42  (by decide +kernel)
theorem dX11_contract_35 : decode cX11_contract 35 = .ok (.getfield 32, 3) := od_180 (a := 0) (b := 32) (by decide +kernel) (by decide)
theorem dX11_contract_38 : decode cX11_contract 38 = .ok (.invokevirtual 268, 3) := od_182 (a := 1) (b := 12) (by decide +kernel) (by decide)
theorem dX11_contract_41 : decode cX11_contract 41 = .ok (.aload_n 2, 1) := od_44  (by decide +kernel)
theorem dX11_contract_42 : decode cX11_contract 42 = .ok (.ifnonnull 19, 3) := od_199 (a := 0) (b := 19) (by decide +kernel) (by decide +kernel)
theorem dX11_contract_45 : decode cX11_contract 45 = .ok (.aload_n 0, 1) := od_42  (by decide +kernel)
theorem dX11_contract_46 : decode cX11_contract 46 = .ok (.iload_n 1, 1) := od_27  (by decide +kernel)
theorem dX11_contract_47 : decode cX11_contract 47 = .ok (.ifCond .eq 8, 3) := od_153 (a := 0) (b := 8) (by decide +kernel) (by decide +kernel)
theorem dX11_contract_50 : decode cX11_contract 50 = .ok (.bipush (-6), 2) := od_16 (a := 250) (by decide +kernel) (by decide +kernel)
theorem dX11_contract_52 : decode cX11_contract 52 = .ok (.goto 5, 3) := od_167 (a := 0) (b := 5) (by decide +kernel) (by decide +kernel)
theorem dX11_contract_55 : decode cX11_contract 55 = .ok (.bipush (-5), 2) := od_16 (a := 251) (by decide +kernel) (by decide +kernel)
theorem dX11_contract_57 : decode cX11_contract 57 = .ok (.invokevirtual 55, 3) := od_182 (a := 0) (b := 55) (by decide +kernel) (by decide)
theorem dX11_contract_60 : decode cX11_contract 60 = .ok (.ireturn, 1) := od_172  (by decide +kernel)
theorem dX11_contract_61 : decode cX11_contract 61 = .ok (.aload_n 0, 1) := od_42  (by decide +kernel)
theorem dX11_contract_62 : decode cX11_contract 62 = .ok (.getfield 10, 3) := od_180 (a := 0) (b := 10) (by decide +kernel) (by decide)
theorem dX11_contract_65 : decode cX11_contract 65 = .ok (.getfield 261, 3) := od_180 (a := 1) (b := 5) (by decide +kernel) (by decide)
theorem dX11_contract_68 : decode cX11_contract 68 = .ok (.istore_n 3, 1) := od_62  (by decide +kernel)
theorem dX11_contract_69 : decode cX11_contract 69 = .ok (.aload_n 0, 1) := od_42  (by decide +kernel)
theorem dX11_contract_70 : decode cX11_contract 70 = .ok (.getfield 10, 3) := od_180 (a := 0) (b := 10) (by decide +kernel) (by decide)
theorem dX11_contract_73 : decode cX11_contract 73 = .ok (.getfield 271, 3) := od_180 (a := 1) (b := 15) (by decide +kernel) (by decide)
theorem dX11_contract_76 : decode cX11_contract 76 = .ok (.iload_n 3, 1) := od_29  (by decide +kernel)
theorem dX11_contract_77 : decode cX11_contract 77 = .ok (.aload_n 2, 1) := od_44  (by decide +kernel)
theorem dX11_contract_78 : decode cX11_contract 78 = .ok (.aastore, 1) := od_83  (by decide +kernel)
theorem dX11_contract_79 : decode cX11_contract 79 = .ok (.aload_n 0, 1) := od_42  (by decide +kernel)
theorem dX11_contract_80 : decode cX11_contract 80 = .ok (.getfield 10, 3) := od_180 (a := 0) (b := 10) (by decide +kernel) (by decide)
theorem dX11_contract_83 : decode cX11_contract 83 = .ok (.dup, 1) := od_89  (by decide +kernel)
theorem dX11_contract_84 : decode cX11_contract 84 = .ok (.getfield 261, 3) := od_180 (a := 1) (b := 5) (by decide +kernel) (by decide)
theorem dX11_contract_87 : decode cX11_contract 87 = .ok (.iconst 1, 1) := od_4  (by decide +kernel)
theorem dX11_contract_88 : decode cX11_contract 88 = .ok (.iadd, 1) := od_96  (by decide +kernel)
theorem dX11_contract_89 : decode cX11_contract 89 = .ok (.putfield 261, 3) := od_181 (a := 1) (b := 5) (by decide +kernel) (by decide)
theorem dX11_contract_92 : decode cX11_contract 92 = .ok (.aload_n 0, 1) := od_42  (by decide +kernel)
theorem dX11_contract_93 : decode cX11_contract 93 = .ok (.iload_n 3, 1) := od_29  (by decide +kernel)
theorem dX11_contract_94 : decode cX11_contract 94 = .ok (.invokevirtual 73, 3) := od_182 (a := 0) (b := 73) (by decide +kernel) (by decide)
theorem dX11_contract_97 : decode cX11_contract 97 = .ok (.ireturn, 1) := od_172  (by decide +kernel)
theorem gX11_image_X11_within : GoodIn WALL (va_wsS RX11 51 yX11_within wqX11_within) := wg_S wa_180 wa_181 wa_2 wa_182
theorem gX11_image_X11_refuse : GoodIn WALL (wsV RX11 55 RX11 yX11_refuse wqX11_refuse) := wg_V wa_183 wa_184 wa_185 wa_2 wa_186
theorem ggX11_image_X10_init : GoodIn WALL wqX10_init := wg_c wa_35
theorem gX11_image_X10_copyFrom : GoodIn WALL (wsV RX11 350 RX10 yX10_copyFrom wqX10_copyFrom) := wg_V wa_1491 wa_1492 wa_1493 wa_14 wa_1494
theorem gX11_image_X11_accept : GoodIn WALL (wsV RX11 73 RX11 yX11_accept wqX11_accept) := wg_V wa_201 wa_202 wa_203 wa_2 wa_204
theorem dX11_image_0 : decode cX11_image 0 = .ok (.iload_n 1, 1) := od_27  (by decide +kernel)
theorem dX11_image_1 : decode cX11_image 1 = .ok (.iconst 0, 1) := od_3  (by decide +kernel)
theorem dX11_image_2 : decode cX11_image 2 = .ok (.aload_n 0, 1) := od_42  (by decide +kernel)
theorem dX11_image_3 : decode cX11_image 3 = .ok (.getfield 16, 3) := od_180 (a := 0) (b := 16) (by decide +kernel) (by decide)
theorem dX11_image_6 : decode cX11_image 6 = .ok (.arraylength, 1) := od_190  (by decide +kernel)
theorem dX11_image_7 : decode cX11_image 7 = .ok (.iconst 1, 1) := od_4  (by decide +kernel)
theorem dX11_image_8 : decode cX11_image 8 = .ok (.isub, 1) := od_100  (by decide +kernel)
theorem dX11_image_9 : decode cX11_image 9 = .ok (.invokestatic 51, 3) := od_184 (a := 0) (b := 51) (by decide +kernel) (by decide)
theorem dX11_image_12 : decode cX11_image 12 = .ok (.ifCond .ne 9, 3) := od_154 (a := 0) (b := 9) (by decide +kernel) (by decide +kernel)
theorem dX11_image_15 : decode cX11_image 15 = .ok (.aload_n 0, 1) := od_42  (by decide +kernel)
theorem dX11_image_16 : decode cX11_image 16 = .ok (.iconst (-1), 1) := od_2  (by decide +kernel)
theorem dX11_image_17 : decode cX11_image 17 = .ok (.invokevirtual 55, 3) := od_182 (a := 0) (b := 55) (by decide +kernel) (by decide)
theorem dX11_image_20 : decode cX11_image 20 = .ok (.ireturn, 1) := od_172  (by decide +kernel)
theorem dX11_image_21 : decode cX11_image 21 = .ok (.aload_n 0, 1) := od_42  (by decide +kernel)
theorem dX11_image_22 : decode cX11_image 22 = .ok (.getfield 16, 3) := od_180 (a := 0) (b := 16) (by decide +kernel) (by decide)
theorem dX11_image_25 : decode cX11_image 25 = .ok (.iload_n 1, 1) := od_27  (by decide +kernel)
theorem dX11_image_26 : decode cX11_image 26 = .ok (.aaload, 1) := od_50  (by decide +kernel)
theorem dX11_image_27 : decode cX11_image 27 = .ok (.ifnonnull 16, 3) := od_199 (a := 0) (b := 16) (by decide +kernel) (by decide +kernel)
theorem dX11_image_30 : decode cX11_image 30 = .ok (.aload_n 0, 1) := od_42  (by decide +kernel)
theorem dX11_image_31 : decode cX11_image 31 = .ok (.getfield 16, 3) := od_180 (a := 0) (b := 16) (by decide +kernel) (by decide)
theorem dX11_image_34 : decode cX11_image 34 = .ok (.iload_n 1, 1) := od_27  (by decide +kernel)
theorem dX11_image_35 : decode cX11_image 35 = .ok (.new 7, 3) := od_187 (a := 0) (b := 7) (by decide +kernel) (by decide)
theorem dX11_image_38 : decode cX11_image 38 = .ok (.dup, 1) := od_89  (by decide +kernel)
theorem dX11_image_39 : decode cX11_image 39 = .ok (.invokespecial 9, 3) := od_183 (a := 0) (b := 9) (by decide +kernel) (by decide)
theorem dX11_image_42 : decode cX11_image 42 = .ok (.aastore, 1) := od_83  (by decide +kernel)
theorem dX11_image_43 : decode cX11_image 43 = .ok (.aload_n 0, 1) := od_42  (by decide +kernel)
theorem dX11_image_44 : decode cX11_image 44 = .ok (.getfield 16, 3) := od_180 (a := 0) (b := 16) (by decide +kernel) (by decide)
theorem dX11_image_47 : decode cX11_image 47 = .ok (.iload_n 1, 1) := od_27  (by decide +kernel)
theorem dX11_image_48 : decode cX11_image 48 = .ok (.aaload, 1) := od_50  (by decide +kernel)
theorem dX11_image_49 : decode cX11_image 49 = .ok (.aload_n 0, 1) := od_42  (by decide +kernel)
theorem dX11_image_50 : decode cX11_image 50 = .ok (.getfield 10, 3) := od_180 (a := 0) (b := 10) (by decide +kernel) (by decide)
theorem dX11_image_53 : decode cX11_image 53 = .ok (.invokevirtual 350, 3) := od_182 (a := 1) (b := 94) (by decide +kernel) (by decide)
theorem dX11_image_56 : decode cX11_image 56 = .ok (.aload_n 0, 1) := od_42  (by decide +kernel)
theorem dX11_image_57 : decode cX11_image 57 = .ok (.iconst 0, 1) := od_3  (by decide +kernel)
theorem dX11_image_58 : decode cX11_image 58 = .ok (.invokevirtual 73, 3) := od_182 (a := 0) (b := 73) (by decide +kernel) (by decide)
theorem dX11_image_61 : decode cX11_image 61 = .ok (.ireturn, 1) := od_172  (by decide +kernel)
theorem dJ7_copyOf_59c91_0 : decode cJ7_copyOf_59c91 0 = .ok (.iload_n 1, 1) := od_27  (by decide +kernel)
theorem dJ7_copyOf_59c91_1 : decode cJ7_copyOf_59c91 1 = .ok (.aload_n 0, 1) := od_42  (by decide +kernel)
theorem dJ7_copyOf_59c91_2 : decode cJ7_copyOf_59c91 2 = .ok (.arraylength, 1) := od_190  (by decide +kernel)
theorem dJ7_copyOf_59c91_3 : decode cJ7_copyOf_59c91 3 = .ok (.if_icmp .ne 11, 3) := od_160 (a := 0) (b := 11) (by decide +kernel) (by decide +kernel)
theorem dJ7_copyOf_59c91_6 : decode cJ7_copyOf_59c91 6 = .ok (.aload_n 0, 1) := od_42  (by decide +kernel)
theorem dJ7_copyOf_59c91_7 : decode cJ7_copyOf_59c91 7 = .ok (.invokevirtual 316, 3) := od_182 (a := 1) (b := 60) (by decide +kernel) (by decide)
theorem dJ7_copyOf_59c91_10 : decode cJ7_copyOf_59c91 10 = .ok (.checkcast 317, 3) := od_192 (a := 1) (b := 61) (by decide +kernel) (by decide)
theorem dJ7_copyOf_59c91_13 : decode cJ7_copyOf_59c91 13 = .ok (.areturn, 1) := od_176  (by decide +kernel)
theorem dJ7_copyOf_59c91_14 : decode cJ7_copyOf_59c91 14 = .ok (.iload_n 1, 1) := od_27  (by decide +kernel)
theorem dJ7_copyOf_59c91_15 : decode cJ7_copyOf_59c91 15 = .ok (.newarray .int, 2) := od_188_10 (by decide +kernel)
theorem dJ7_copyOf_59c91_17 : decode cJ7_copyOf_59c91 17 = .ok (.astore_n 2, 1) := od_77  (by decide +kernel)
theorem dJ7_copyOf_59c91_18 : decode cJ7_copyOf_59c91 18 = .ok (.aload_n 0, 1) := od_42  (by decide +kernel)
theorem dJ7_copyOf_59c91_19 : decode cJ7_copyOf_59c91 19 = .ok (.iconst 0, 1) := od_3  (by decide +kernel)
theorem dJ7_copyOf_59c91_20 : decode cJ7_copyOf_59c91 20 = .ok (.aload_n 2, 1) := od_44  (by decide +kernel)
theorem dJ7_copyOf_59c91_21 : decode cJ7_copyOf_59c91 21 = .ok (.iconst 0, 1) := od_3  (by decide +kernel)
theorem dJ7_copyOf_59c91_22 : decode cJ7_copyOf_59c91 22 = .ok (.aload_n 0, 1) := od_42  (by decide +kernel)
theorem dJ7_copyOf_59c91_23 : decode cJ7_copyOf_59c91 23 = .ok (.arraylength, 1) := od_190  (by decide +kernel)
theorem dJ7_copyOf_59c91_24 : decode cJ7_copyOf_59c91 24 = .ok (.iload_n 1, 1) := od_27  (by decide +kernel)
theorem dJ7_copyOf_59c91_25 : decode cJ7_copyOf_59c91 25 = .ok (.invokestatic 304, 3) := od_184 (a := 1) (b := 48) (by decide +kernel) (by decide)
theorem dJ7_copyOf_59c91_28 : decode cJ7_copyOf_59c91 28 = .ok (.invokestatic 150, 3) := od_184 (a := 0) (b := 150) (by decide +kernel) (by decide)
theorem dJ7_copyOf_59c91_31 : decode cJ7_copyOf_59c91 31 = .ok (.aload_n 2, 1) := od_44  (by decide +kernel)
theorem dJ7_copyOf_59c91_32 : decode cJ7_copyOf_59c91 32 = .ok (.areturn, 1) := od_176  (by decide +kernel)
end
section
set_option maxHeartbeats 4000000 in
set_option maxRecDepth 100000 in
theorem t_J7_copyOf_28 (l : Launch) (dC : Nat → ClassId) (dI : Nat → Nat → Nat) (sz : Nat) (Ω : Nat → Nat → (Nat → Nat) → va_E → Prop) (κ : Nat → ClassId) (τ ν : Nat → Nat) (ρ : Nat → Nat → Nat) (L : List Nat) (f : Nat → va_E) (hG : tp_G τ ν ρ L) (hT : tp_T Ω κ τ ν ρ f) (h0 : Nat) (n : Int32) (ht_h0 : τ h0 = 28) (hr_n : 0 ≤ n.toInt ∧ n.toInt ≤ 400) (hn9 : ν h0 ≤ 400) : Met l yJ7_copyOf_59c91 wqJ7_copyOf_59c91 ({ frames := 2, cells := 1, slots := 400, locals := 400 }) (va_Pc [.ref h0, .int n] (pz_B dC dI (tp_K κ) (va_pl L f) sz)) (va_Qq (fun (r : Option Nat) (x : tp_S) => tp_PX Ω κ τ ν ρ L f [20, 28] none x ∧ ∃ b : Nat, r = some b ∧ x.1 b = 28 ∧ x.2.1 b = n.toNatClampNeg) (fun (x : tp_S) (t : State) => pz_E dC dI (tp_K κ) (va_A (va_pl L f) sz) (va_pl x.2.2.2.1 x.2.2.2.2) t) (va_A (va_pl L f) sz)) 1 400 (va_A (va_pl L f) sz) := by
  refine Met.ofW (cc := cJ7_copyOf_59c91) (maxL := 3) (ret := some (.array .int)) (by decide) rfl ?_
  intro p e s m args below meth c s₁ B hml hv
  obtain ⟨rfl, hsz, hP, hK, hD0, hN⟩ := hv
  have hx := B.exec
  have hb := B.bytes
  have hr := B.returns
  have hts := fun (w : Cond) (h : w ∈ WALL) => atoms_spec (ws := wqJ7_copyOf_59c91) B.pre w (List.mem_cons_of_mem _ h)
  have hown : s.vm.findClass RJ7 = some m.cls := findClass_of_methodNamed B.named
  have hlocks := B.notSynchronized
  subst hsz
  have hD := hD0.self (sz := s.heap.size)
  generalize hAe : va_A (va_pl L f) s.heap.size = A at hD ⊢
  have hA : ∀ q : Nat, s.heap.size ≤ q → A q := fun q h => by rw [← hAe]; exact Or.inr h
  have hS : va_S A s.heap s.heap [] := va_S.rf
  have hH : tp_H τ ν ρ L f [20, 28] none τ ν ρ L f := tp_H.rf
  have hl := lv_entry ([.ref h0, .int n]) (n := 3) (Nat.le_of_ble_eq_true rfl)
  rw [lg_entry_eq]
  generalize (lg_sl ([.ref h0, .int n]) ++ List.replicate (3 - (lg_sl ([.ref h0, .int n])).length) Slot.unset).toArray = ls at hl ⊢
  have hl : lv_has ls 3 [(0, .ref h0), (1, .int n)] := hl
  refine lv_iload_n hx hb dJ7_copyOf_59c91_0 rfl (lv_at hl 1 rfl) ?_
  refine lv_aload_n hx hb dJ7_copyOf_59c91_1 rfl (lv_at hl 0 rfl) ?_
  refine tpk_28 hT ht_h0 rfl (fun g2 hf_o1 hf_o1e => ?_)
  refine tpk_pos (tp_in hG ht_h0 (by decide)) hf_o1 (fun q3 eq3 => ?_)
  obtain ⟨z4, ez4⟩ : ∃ y : Int32, y = Int32.ofNat (ν h0) := ⟨_, rfl⟩
  have iz4 : z4.toInt = ((ν h0) : Int) := zi_ofNat ez4 (by omega)
  refine va_alen hx hb hK hP q3 0 eq3 rfl ez4.symm dJ7_copyOf_59c91_2 ?_
  refine lv_icmp_ne (tgt := 14) hx hb dJ7_copyOf_59c91_3 (by decide) (fun c5 => ?_) (fun c5 => ?_)
  · have ic5 : n.toInt ≠ z4.toInt := zi_ne rfl rfl c5
    refine lv_iload_n hx hb dJ7_copyOf_59c91_14 rfl (lv_at hl 1 rfl) ?_
    refine va_newa (atype := .int) hx hb (hts (.arrayClass .int) wa_39) (ty := .int) rfl hK hP hD hS hA (a0 := (n.toNatClampNeg, .inl (fun _ => 0))) (fun cA => pz_na_int cA (n.toNatClampNeg)) (zi_nn (by omega)) rfl (by have := zi_cn n; have e9 : n.toNatClampNeg * componentBytes FieldType.int = n.toNatClampNeg * 4 := rfl; omega) (Nat.le_of_ble_eq_true rfl) (by have := zi_cn n; show _ ≤ 400; omega) dJ7_copyOf_59c91_15 (fun q6 k7 H hK hP hD hS => ?_)
    obtain ⟨e9, hK9⟩ := tp_kid 0 rfl hK; subst e9; have hK := hK9
    refine Exists.elim (tp_grow hG hT hP hD) (fun L17 hE90 => Exists.elim hE90 (fun f16 hE91 => tn_10 hE91 (fun hP hD hg8 ht9 hs10 hq11 hz12 hn13 hf14 ho15 => ?_)))
    clear hE91 hE90
    have hn18 : ∀ a, a ∈ L → a ≠ q6 := fun a ha => hn13 a (hH.1 a ha)
    have ne19 : h0 ≠ q6 := hn13 _ (tp_in hG ht_h0 (by decide))
    have hG := hg8
    have hT := ht9
    have hH := hH.gr hs10 hn13 ho15
    obtain ⟨τ_20, ν_20, ρ_20, hG, hT, hb21, ht22, hn23, hr24⟩ := tp_type hG hT hq11 hz12 28 (n.toNatClampNeg) (fun _ => 0) (by decide) (fun τ9 ν9 ρ9 hE h2 h3 => ⟨trivial, by rw [hf14]; exact tp_o28 h2 (fun _ => ⟨by decide, by decide⟩)⟩)
    have hH := hH.ty (fun a ha _ => hn18 a ha) hb21
    have ht25 : τ_20 h0 = 28 := (hb21 _ ne19).1.trans ht_h0
    have := (hb21 _ ne19).2.1
    clear ht_h0 hb21 ne19
    refine tp_widen 1 400 (Nat.le_of_ble_eq_true rfl) (by have := zi_cn n; show _ ≤ 400; omega) ?_
    have := zi_cn n
    refine lv_astore_n (lv' := [(2, .ref q6), (0, .ref h0), (1, .int n)]) hx hb dJ7_copyOf_59c91_17 rfl hl (by decide) rfl (fun ls hl => ?_)
    refine lv_aload_n hx hb dJ7_copyOf_59c91_18 rfl (lv_at hl 1 rfl) ?_
    refine lv_iconst (v := 0) hx hb dJ7_copyOf_59c91_19 (by decide) ?_
    refine lv_aload_n hx hb dJ7_copyOf_59c91_20 rfl (lv_at hl 0 rfl) ?_
    refine lv_iconst (v := 0) hx hb dJ7_copyOf_59c91_21 (by decide) ?_
    refine lv_aload_n hx hb dJ7_copyOf_59c91_22 rfl (lv_at hl 1 rfl) ?_
    refine tpk_28 hT ht25 rfl (fun g27 hf_o26 hf_o26e => ?_)
    refine tpk_pos (tp_in hG ht25 (by decide)) hf_o26 (fun q28 eq28 => ?_)
    obtain ⟨z29, ez29⟩ : ∃ y : Int32, y = Int32.ofNat (ν_20 h0) := ⟨_, rfl⟩
    have iz29 : z29.toInt = ((ν_20 h0) : Int) := zi_ofNat ez29 (by omega)
    refine va_alen hx hb hK hP q28 0 eq28 rfl ez29.symm dJ7_copyOf_59c91_23 ?_
    refine lv_iload_n hx hb dJ7_copyOf_59c91_24 rfl (lv_at hl 2 rfl) ?_
    refine va_mmin hx hb (by rw [hml]; exact hl.1.symm) hown (hts (.methodLink RJ7 304 Lib.Math.min.name) wa_968) (hts (.static Lib.Math.min.name) wa_434) (hts (.initialized "java/lang/Math") wa_71) (hts (.code Lib.Math.min.name Lib.Math.min.code 2 (some .int)) wa_435) (Nat.le_of_ble_eq_true rfl) (Nat.le_of_ble_eq_true rfl) (Nat.le_of_ble_eq_true rfl) (Nat.le_of_ble_eq_true rfl) dJ7_copyOf_59c91_25 ?_
    refine lv_topi (fun z30 ez30 => ?_)
    have iz30 := zi_min ez30 (rfl : z29.toInt = _) (rfl : n.toInt = _)
    refine tpk_28 hT ht22 rfl (fun g32 hf_o31 hf_o31e => ?_)
    refine tpk_pos (tp_in hG ht22 (by decide)) hf_o31 (fun q33 eq33 => ?_)
    refine va_copyi hx hb (by rw [hml]; exact hl.1.symm) hown (hts (.methodLink RJ7 150 arraycopyName) wa_969) (hts (.native arraycopyName) wa_465) (hts (.static arraycopyName) wa_466) (hts (.initialized "java/lang/System") wa_467) hK hP hD hS q28 q33 0 0 eq28 eq33 rfl rfl rfl (by decide) (by decide) (zi_nn (by omega)) (zi_cp (show (0 : Int32).toInt = 0 from rfl) (rfl : z30.toInt = _) (by omega)) (zi_cp (show (0 : Int32).toInt = 0 from rfl) (rfl : z30.toInt = _) (by omega)) (fun _ _ => rfl) (Nat.le_of_ble_eq_true rfl) (Nat.le_of_ble_eq_true rfl) dJ7_copyOf_59c91_28 (tp_k (.inl (κ 0, (ν_20 q6), .inl (va_cpy g27 g32 (0 : Int32).toNatClampNeg (0 : Int32).toNatClampNeg z30.toNatClampNeg))) hD (tp_in hG ht22 (by decide)) eq33 (fun f34 H locs hP hD hS g36 k35 => ?_))
    have hT := hT.up ht22 g36 k35 (tp_o28 rfl (tp_cpy28 hf_o26e hf_o31e _ _ _))
    have hH := hH.wt ht22 (by decide) k35
    generalize (va_cpy g27 g32 (0 : Int32).toNatClampNeg (0 : Int32).toNatClampNeg z30.toNatClampNeg) = g37 at g36
    refine lv_aload_n hx hb dJ7_copyOf_59c91_31 rfl (lv_at hl 0 rfl) ?_
    refine tp_widen 1 400 (Nat.le_of_ble_eq_true rfl) (Nat.le_of_ble_eq_true rfl) ?_
    exact W.aret (v := .ref q6) hx hb hr (Or.inr ⟨_, rfl⟩) (Or.inr ⟨_, rfl⟩) (fun t ht hW => ⟨⟨some q6, (τ_20, ν_20, ρ_20, L17, f34), rfl, ⟨⟨hG, hT, hH⟩, ⟨q6, rfl, ht22, hn23⟩⟩, by rw [ht]; exact hP, va_K.moved hW.alike hK, hD⟩, hS.F ht⟩) hS.2.2 dJ7_copyOf_59c91_32
  · have ic5 : n.toInt = z4.toInt := zi_nef rfl rfl c5
    refine lv_aload_n hx hb dJ7_copyOf_59c91_6 rfl (lv_at hl 0 rfl) ?_
    refine va_clone hx hb (by rw [hml]; exact hl.1.symm) hown (hts (.methodLink RJ7 316 ⟨"[I", "clone", "()Ljava/lang/Object;"⟩) wa_962) (hts (.sameMethod "[I" "java/lang/Object" "clone" "()Ljava/lang/Object;") wa_963) (hts (.native ⟨"java/lang/Object", "clone", "()Ljava/lang/Object;"⟩) wa_964) (hts (.instanceMethod ⟨"java/lang/Object", "clone", "()Ljava/lang/Object;"⟩) wa_965) (hts (.selects "[I" ⟨"[I", "clone", "()Ljava/lang/Object;"⟩ ⟨"java/lang/Object", "clone", "()Ljava/lang/Object;"⟩) wa_966) (hN.1 (.castable "[I" "java/lang/Cloneable") nzw_112) hK hP hD hS hA q3 0 (x := ((ν h0), .inl g2)) (ty := .int) eq3 rfl (va_nm_int (hK.2 0 _ rfl).2) (fun i9 v9 h9 => va_fit (n := (ν h0)) (F := fun i9 => .int (g2 i9)) (fun _ _ => rfl) i9 v9 h9) (Nat.le_of_ble_eq_true rfl) (Nat.le_of_ble_eq_true rfl) (Nat.le_of_ble_eq_true rfl) (by show 0 + (ν h0) ≤ 400; omega) dJ7_copyOf_59c91_7 (fun q38 H hK hP hD hS => ?_)
    have hK := (tp_kid 0 rfl hK).2
    refine Exists.elim (tp_grow hG hT hP hD) (fun L48 hE90 => Exists.elim hE90 (fun f47 hE91 => tn_10 hE91 (fun hP hD hg39 ht40 hs41 hq42 hz43 hn44 hf45 ho46 => ?_)))
    clear hE91 hE90
    have hn49 : ∀ a, a ∈ L → a ≠ q38 := fun a ha => hn44 a (hH.1 a ha)
    have ne50 : h0 ≠ q38 := hn44 _ (tp_in hG ht_h0 (by decide))
    have hG := hg39
    have hT := ht40
    have hH := hH.gr hs41 hn44 ho46
    obtain ⟨τ_51, ν_51, ρ_51, hG, hT, hb52, ht53, hn54, hr55⟩ := tp_type hG hT hq42 hz43 28 ((ν h0)) (fun _ => 0) (by decide) (fun τ9 ν9 ρ9 hE h2 h3 => ⟨trivial, by rw [hf45]; exact tp_o28 h2 hf_o1e⟩)
    have hH := hH.ty (fun a ha _ => hn49 a ha) hb52
    have ht56 : τ_51 h0 = 28 := (hb52 _ ne50).1.trans ht_h0
    have := (hb52 _ ne50).2.1
    clear ht_h0 hb52 ne50
    refine tpk_28 hT ht53 rfl (fun g58 hf_o57 hf_o57e => ?_)
    refine tpk_pos (tp_in hG ht53 (by decide)) hf_o57 (fun q59 eq59 => ?_)
    refine va_castA hx hb hown (hts (.classLink RJ7 317 "[I") wa_967) hP q59 eq59 (va_nm_int (hK.2 0 _ rfl).2) dJ7_copyOf_59c91_10 ?_
    refine tp_widen 1 400 (Nat.le_of_ble_eq_true rfl) ((by show 0 + ν h0 ≤ 400; omega)) ?_
    exact W.aret (v := .ref q38) hx hb hr (Or.inr ⟨_, rfl⟩) (Or.inr ⟨_, rfl⟩) (fun t ht hW => ⟨⟨some q38, (τ_51, ν_51, ρ_51, L48, f47), rfl, ⟨⟨hG, hT, hH⟩, ⟨q38, rfl, ht53, hn54.trans (by have := zi_cn n; omega)⟩⟩, by rw [ht]; exact hP, va_K.moved hW.alike hK, hD⟩, hS.F ht⟩) hS.2.2 dJ7_copyOf_59c91_13
set_option maxHeartbeats 4000000 in
set_option maxRecDepth 100000 in
theorem t_J7_copyOf_20 (l : Launch) (dC : Nat → ClassId) (dI : Nat → Nat → Nat) (sz : Nat) (Ω : Nat → Nat → (Nat → Nat) → va_E → Prop) (κ : Nat → ClassId) (τ ν : Nat → Nat) (ρ : Nat → Nat → Nat) (L : List Nat) (f : Nat → va_E) (hG : tp_G τ ν ρ L) (hT : tp_T Ω κ τ ν ρ f) (h0 : Nat) (n : Int32) (ht_h0 : τ h0 = 20) (hr_n : 0 ≤ n.toInt ∧ n.toInt ≤ 400) (hn9 : ν h0 ≤ 400) : Met l yJ7_copyOf_59c91 wqJ7_copyOf_59c91 ({ frames := 2, cells := 1, slots := 400, locals := 400 }) (va_Pc [.ref h0, .int n] (pz_B dC dI (tp_K κ) (va_pl L f) sz)) (va_Qq (fun (r : Option Nat) (x : tp_S) => tp_PX Ω κ τ ν ρ L f [20, 28] none x ∧ ∃ b : Nat, r = some b ∧ x.1 b = 20 ∧ x.2.1 b = n.toNatClampNeg) (fun (x : tp_S) (t : State) => pz_E dC dI (tp_K κ) (va_A (va_pl L f) sz) (va_pl x.2.2.2.1 x.2.2.2.2) t) (va_A (va_pl L f) sz)) 1 400 (va_A (va_pl L f) sz) := by
  refine Met.ofW (cc := cJ7_copyOf_59c91) (maxL := 3) (ret := some (.array .int)) (by decide) rfl ?_
  intro p e s m args below meth c s₁ B hml hv
  obtain ⟨rfl, hsz, hP, hK, hD0, hN⟩ := hv
  have hx := B.exec
  have hb := B.bytes
  have hr := B.returns
  have hts := fun (w : Cond) (h : w ∈ WALL) => atoms_spec (ws := wqJ7_copyOf_59c91) B.pre w (List.mem_cons_of_mem _ h)
  have hown : s.vm.findClass RJ7 = some m.cls := findClass_of_methodNamed B.named
  have hlocks := B.notSynchronized
  subst hsz
  have hD := hD0.self (sz := s.heap.size)
  generalize hAe : va_A (va_pl L f) s.heap.size = A at hD ⊢
  have hA : ∀ q : Nat, s.heap.size ≤ q → A q := fun q h => by rw [← hAe]; exact Or.inr h
  have hS : va_S A s.heap s.heap [] := va_S.rf
  have hH : tp_H τ ν ρ L f [20, 28] none τ ν ρ L f := tp_H.rf
  have hl := lv_entry ([.ref h0, .int n]) (n := 3) (Nat.le_of_ble_eq_true rfl)
  rw [lg_entry_eq]
  generalize (lg_sl ([.ref h0, .int n]) ++ List.replicate (3 - (lg_sl ([.ref h0, .int n])).length) Slot.unset).toArray = ls at hl ⊢
  have hl : lv_has ls 3 [(0, .ref h0), (1, .int n)] := hl
  refine lv_iload_n hx hb dJ7_copyOf_59c91_0 rfl (lv_at hl 1 rfl) ?_
  refine lv_aload_n hx hb dJ7_copyOf_59c91_1 rfl (lv_at hl 0 rfl) ?_
  refine tpk_20 hT ht_h0 rfl (fun g2 hf_o1 => ?_)
  refine tpk_pos (tp_in hG ht_h0 (by decide)) hf_o1 (fun q3 eq3 => ?_)
  obtain ⟨z4, ez4⟩ : ∃ y : Int32, y = Int32.ofNat (ν h0) := ⟨_, rfl⟩
  have iz4 : z4.toInt = ((ν h0) : Int) := zi_ofNat ez4 (by omega)
  refine va_alen hx hb hK hP q3 0 eq3 rfl ez4.symm dJ7_copyOf_59c91_2 ?_
  refine lv_icmp_ne (tgt := 14) hx hb dJ7_copyOf_59c91_3 (by decide) (fun c5 => ?_) (fun c5 => ?_)
  · have ic5 : n.toInt ≠ z4.toInt := zi_ne rfl rfl c5
    refine lv_iload_n hx hb dJ7_copyOf_59c91_14 rfl (lv_at hl 1 rfl) ?_
    refine va_newa (atype := .int) hx hb (hts (.arrayClass .int) wa_39) (ty := .int) rfl hK hP hD hS hA (a0 := (n.toNatClampNeg, .inl (fun _ => 0))) (fun cA => pz_na_int cA (n.toNatClampNeg)) (zi_nn (by omega)) rfl (by have := zi_cn n; have e9 : n.toNatClampNeg * componentBytes FieldType.int = n.toNatClampNeg * 4 := rfl; omega) (Nat.le_of_ble_eq_true rfl) (by have := zi_cn n; show _ ≤ 400; omega) dJ7_copyOf_59c91_15 (fun q6 k7 H hK hP hD hS => ?_)
    obtain ⟨e9, hK9⟩ := tp_kid 0 rfl hK; subst e9; have hK := hK9
    refine Exists.elim (tp_grow hG hT hP hD) (fun L17 hE90 => Exists.elim hE90 (fun f16 hE91 => tn_10 hE91 (fun hP hD hg8 ht9 hs10 hq11 hz12 hn13 hf14 ho15 => ?_)))
    clear hE91 hE90
    have hn18 : ∀ a, a ∈ L → a ≠ q6 := fun a ha => hn13 a (hH.1 a ha)
    have ne19 : h0 ≠ q6 := hn13 _ (tp_in hG ht_h0 (by decide))
    have hG := hg8
    have hT := ht9
    have hH := hH.gr hs10 hn13 ho15
    obtain ⟨τ_20, ν_20, ρ_20, hG, hT, hb21, ht22, hn23, hr24⟩ := tp_type hG hT hq11 hz12 20 (n.toNatClampNeg) (fun _ => 0) (by decide) (fun τ9 ν9 ρ9 hE h2 h3 => ⟨trivial, by rw [hf14]; exact tp_o20 h2⟩)
    have hH := hH.ty (fun a ha _ => hn18 a ha) hb21
    have ht25 : τ_20 h0 = 20 := (hb21 _ ne19).1.trans ht_h0
    have := (hb21 _ ne19).2.1
    clear ht_h0 hb21 ne19
    refine tp_widen 1 400 (Nat.le_of_ble_eq_true rfl) (by have := zi_cn n; show _ ≤ 400; omega) ?_
    have := zi_cn n
    refine lv_astore_n (lv' := [(2, .ref q6), (0, .ref h0), (1, .int n)]) hx hb dJ7_copyOf_59c91_17 rfl hl (by decide) rfl (fun ls hl => ?_)
    refine lv_aload_n hx hb dJ7_copyOf_59c91_18 rfl (lv_at hl 1 rfl) ?_
    refine lv_iconst (v := 0) hx hb dJ7_copyOf_59c91_19 (by decide) ?_
    refine lv_aload_n hx hb dJ7_copyOf_59c91_20 rfl (lv_at hl 0 rfl) ?_
    refine lv_iconst (v := 0) hx hb dJ7_copyOf_59c91_21 (by decide) ?_
    refine lv_aload_n hx hb dJ7_copyOf_59c91_22 rfl (lv_at hl 1 rfl) ?_
    refine tpk_20 hT ht25 rfl (fun g27 hf_o26 => ?_)
    refine tpk_pos (tp_in hG ht25 (by decide)) hf_o26 (fun q28 eq28 => ?_)
    obtain ⟨z29, ez29⟩ : ∃ y : Int32, y = Int32.ofNat (ν_20 h0) := ⟨_, rfl⟩
    have iz29 : z29.toInt = ((ν_20 h0) : Int) := zi_ofNat ez29 (by omega)
    refine va_alen hx hb hK hP q28 0 eq28 rfl ez29.symm dJ7_copyOf_59c91_23 ?_
    refine lv_iload_n hx hb dJ7_copyOf_59c91_24 rfl (lv_at hl 2 rfl) ?_
    refine va_mmin hx hb (by rw [hml]; exact hl.1.symm) hown (hts (.methodLink RJ7 304 Lib.Math.min.name) wa_968) (hts (.static Lib.Math.min.name) wa_434) (hts (.initialized "java/lang/Math") wa_71) (hts (.code Lib.Math.min.name Lib.Math.min.code 2 (some .int)) wa_435) (Nat.le_of_ble_eq_true rfl) (Nat.le_of_ble_eq_true rfl) (Nat.le_of_ble_eq_true rfl) (Nat.le_of_ble_eq_true rfl) dJ7_copyOf_59c91_25 ?_
    refine lv_topi (fun z30 ez30 => ?_)
    have iz30 := zi_min ez30 (rfl : z29.toInt = _) (rfl : n.toInt = _)
    refine tpk_20 hT ht22 rfl (fun g32 hf_o31 => ?_)
    refine tpk_pos (tp_in hG ht22 (by decide)) hf_o31 (fun q33 eq33 => ?_)
    refine va_copyi hx hb (by rw [hml]; exact hl.1.symm) hown (hts (.methodLink RJ7 150 arraycopyName) wa_969) (hts (.native arraycopyName) wa_465) (hts (.static arraycopyName) wa_466) (hts (.initialized "java/lang/System") wa_467) hK hP hD hS q28 q33 0 0 eq28 eq33 rfl rfl rfl (by decide) (by decide) (zi_nn (by omega)) (zi_cp (show (0 : Int32).toInt = 0 from rfl) (rfl : z30.toInt = _) (by omega)) (zi_cp (show (0 : Int32).toInt = 0 from rfl) (rfl : z30.toInt = _) (by omega)) (fun _ _ => rfl) (Nat.le_of_ble_eq_true rfl) (Nat.le_of_ble_eq_true rfl) dJ7_copyOf_59c91_28 (tp_k (.inl (κ 0, (ν_20 q6), .inl (va_cpy g27 g32 (0 : Int32).toNatClampNeg (0 : Int32).toNatClampNeg z30.toNatClampNeg))) hD (tp_in hG ht22 (by decide)) eq33 (fun f34 H locs hP hD hS g36 k35 => ?_))
    have hT := hT.up ht22 g36 k35 (tp_o20 rfl)
    have hH := hH.wt ht22 (by decide) k35
    generalize (va_cpy g27 g32 (0 : Int32).toNatClampNeg (0 : Int32).toNatClampNeg z30.toNatClampNeg) = g37 at g36
    refine lv_aload_n hx hb dJ7_copyOf_59c91_31 rfl (lv_at hl 0 rfl) ?_
    refine tp_widen 1 400 (Nat.le_of_ble_eq_true rfl) (Nat.le_of_ble_eq_true rfl) ?_
    exact W.aret (v := .ref q6) hx hb hr (Or.inr ⟨_, rfl⟩) (Or.inr ⟨_, rfl⟩) (fun t ht hW => ⟨⟨some q6, (τ_20, ν_20, ρ_20, L17, f34), rfl, ⟨⟨hG, hT, hH⟩, ⟨q6, rfl, ht22, hn23⟩⟩, by rw [ht]; exact hP, va_K.moved hW.alike hK, hD⟩, hS.F ht⟩) hS.2.2 dJ7_copyOf_59c91_32
  · have ic5 : n.toInt = z4.toInt := zi_nef rfl rfl c5
    refine lv_aload_n hx hb dJ7_copyOf_59c91_6 rfl (lv_at hl 0 rfl) ?_
    refine va_clone hx hb (by rw [hml]; exact hl.1.symm) hown (hts (.methodLink RJ7 316 ⟨"[I", "clone", "()Ljava/lang/Object;"⟩) wa_962) (hts (.sameMethod "[I" "java/lang/Object" "clone" "()Ljava/lang/Object;") wa_963) (hts (.native ⟨"java/lang/Object", "clone", "()Ljava/lang/Object;"⟩) wa_964) (hts (.instanceMethod ⟨"java/lang/Object", "clone", "()Ljava/lang/Object;"⟩) wa_965) (hts (.selects "[I" ⟨"[I", "clone", "()Ljava/lang/Object;"⟩ ⟨"java/lang/Object", "clone", "()Ljava/lang/Object;"⟩) wa_966) (hN.1 (.castable "[I" "java/lang/Cloneable") nzw_112) hK hP hD hS hA q3 0 (x := ((ν h0), .inl g2)) (ty := .int) eq3 rfl (va_nm_int (hK.2 0 _ rfl).2) (fun i9 v9 h9 => va_fit (n := (ν h0)) (F := fun i9 => .int (g2 i9)) (fun _ _ => rfl) i9 v9 h9) (Nat.le_of_ble_eq_true rfl) (Nat.le_of_ble_eq_true rfl) (Nat.le_of_ble_eq_true rfl) (by show 0 + (ν h0) ≤ 400; omega) dJ7_copyOf_59c91_7 (fun q38 H hK hP hD hS => ?_)
    have hK := (tp_kid 0 rfl hK).2
    refine Exists.elim (tp_grow hG hT hP hD) (fun L48 hE90 => Exists.elim hE90 (fun f47 hE91 => tn_10 hE91 (fun hP hD hg39 ht40 hs41 hq42 hz43 hn44 hf45 ho46 => ?_)))
    clear hE91 hE90
    have hn49 : ∀ a, a ∈ L → a ≠ q38 := fun a ha => hn44 a (hH.1 a ha)
    have ne50 : h0 ≠ q38 := hn44 _ (tp_in hG ht_h0 (by decide))
    have hG := hg39
    have hT := ht40
    have hH := hH.gr hs41 hn44 ho46
    obtain ⟨τ_51, ν_51, ρ_51, hG, hT, hb52, ht53, hn54, hr55⟩ := tp_type hG hT hq42 hz43 20 ((ν h0)) (fun _ => 0) (by decide) (fun τ9 ν9 ρ9 hE h2 h3 => ⟨trivial, by rw [hf45]; exact tp_o20 h2⟩)
    have hH := hH.ty (fun a ha _ => hn49 a ha) hb52
    have ht56 : τ_51 h0 = 20 := (hb52 _ ne50).1.trans ht_h0
    have := (hb52 _ ne50).2.1
    clear ht_h0 hb52 ne50
    refine tpk_20 hT ht53 rfl (fun g58 hf_o57 => ?_)
    refine tpk_pos (tp_in hG ht53 (by decide)) hf_o57 (fun q59 eq59 => ?_)
    refine va_castA hx hb hown (hts (.classLink RJ7 317 "[I") wa_967) hP q59 eq59 (va_nm_int (hK.2 0 _ rfl).2) dJ7_copyOf_59c91_10 ?_
    refine tp_widen 1 400 (Nat.le_of_ble_eq_true rfl) ((by show 0 + ν h0 ≤ 400; omega)) ?_
    exact W.aret (v := .ref q38) hx hb hr (Or.inr ⟨_, rfl⟩) (Or.inr ⟨_, rfl⟩) (fun t ht hW => ⟨⟨some q38, (τ_51, ν_51, ρ_51, L48, f47), rfl, ⟨⟨hG, hT, hH⟩, ⟨q38, rfl, ht53, hn54.trans (by have := zi_cn n; omega)⟩⟩, by rw [ht]; exact hP, va_K.moved hW.alike hK, hD⟩, hS.F ht⟩) hS.2.2 dJ7_copyOf_59c91_13
set_option maxHeartbeats 4000000 in
set_option maxRecDepth 100000 in
theorem t_X2_readTape (l : Launch) (dC : Nat → ClassId) (dI : Nat → Nat → Nat) (sz : Nat) (Ω : Nat → Nat → (Nat → Nat) → va_E → Prop) (κ : Nat → ClassId) (τ ν : Nat → Nat) (ρ : Nat → Nat → Nat) (L : List Nat) (f : Nat → va_E) (hG : tp_G τ ν ρ L) (hT : tp_T Ω κ τ ν ρ f) (adK adV : Nat → Nat) (zv : Option Nat) (h0 : Nat) (ht_h0 : τ h0 = 3) : Met l yX2_readTape wqX2_readTape ({ frames := 83, cells := 3, slots := 805, locals := 32800 }) (va_Pc [.ref h0] (pw_BZ dC dI (tp_K κ) (va_pl L f) sz adK adV zv)) (va_Qq (fun (r : Option Nat) (x : tp_S) => tp_PX Ω κ τ ν ρ L f [3, 20, 28] none x ∧ (r = none ∨ ∃ b : Nat, r = some b ∧ x.1 b = 1)) (fun (x : tp_S) (t : State) => pz_E dC dI (tp_K κ) (va_A (va_pl L f) sz) (va_pl x.2.2.2.1 x.2.2.2.2) t) (va_A (va_pl L f) sz)) 3 805 (va_A (va_pl L f) sz) := by
  refine Met.ofW (cc := cX2_readTape) (maxL := 2) (ret := some (.object "ColdShips$Contract")) (by decide) rfl ?_
  intro p e s m args below meth c s₁ B hml hv
  obtain ⟨rfl, ⟨hsz, hP, hK, hD0, hN⟩, hZ⟩ := hv
  have hx := B.exec
  have hb := B.bytes
  have hr := B.returns
  have hts := fun (w : Cond) (h : w ∈ WALL) => atoms_spec (ws := wqX2_readTape) B.pre w (List.mem_cons_of_mem _ h)
  have hown : s.vm.findClass RX2 = some m.cls := findClass_of_methodNamed B.named
  have hlocks := B.notSynchronized
  subst hsz
  have hD := hD0.self (sz := s.heap.size)
  generalize hAe : va_A (va_pl L f) s.heap.size = A at hD hZ ⊢
  have hA : ∀ q : Nat, s.heap.size ≤ q → A q := fun q h => by rw [← hAe]; exact Or.inr h
  have hS : va_S A s.heap s.heap [] := va_S.rf
  have hH : tp_H τ ν ρ L f [3, 20, 28] none τ ν ρ L f := tp_H.rf
  have hl := lv_entry ([.ref h0]) (n := 2) (Nat.le_of_ble_eq_true rfl)
  rw [lg_entry_eq]
  generalize (lg_sl ([.ref h0]) ++ List.replicate (2 - (lg_sl ([.ref h0])).length) Slot.unset).toArray = ls at hl ⊢
  have hl : lv_has ls 2 [(0, .ref h0)] := hl
  refine lv_aload_n hx hb dX2_readTape_0 rfl (lv_at hl 0 rfl) ?_
  refine lv_iconst (v := 0) hx hb dX2_readTape_1 (by decide) ?_
  refine tgk_3 hG ht_h0 (fun y1 y1n y2 y2n y3 y3n => ?_)
  refine tpk_3 hT ht_h0 (fun o4_x1 o4_x2 o4_x3 o4_x4 o4_x5 o4_x6 o4_x8 o4_x10 o4_x11 o4_x12 o4_x13 o4_x14 o4_x15 hf_o4 ro4_0 ro4_1 ro4_2 ro4_3 ro4_4 ro4_5 ro4_6 => ?_)
  refine tpk_pos (tp_in hG ht_h0 (by decide)) hf_o4 (fun q5 eq5 => ?_)
  refine va_put (D := (dC, dI)) (ci := 2) (v := .int 0) (ty := .int) (C := RX2) (T := TX2) (N := 16) hx hb hts hfX2 tyX2 tyX2_ok nmX2 hown hK hP hD hS q5 eq5 rfl 5 (by decide) (hts (.fieldLink RX2 29 "ColdShips$Reader" "behind" "I") wa_795) (fun _ h9 => h9) rfl (tyX2_ok 5 (by decide)) rfl rfl (Nat.le_of_ble_eq_true rfl) dX2_readTape_2 (tp_k (.inr (2, [.ref (ρ h0 0), .int o4_x1, .int o4_x2, .int o4_x3, .int o4_x4, .int 0, .int o4_x6, .ref (ρ h0 7), .int o4_x8, .ref (ρ h0 9), .int o4_x10, .int o4_x11, .int o4_x12, .int o4_x13, .int o4_x14, .int o4_x15])) hD (tp_in hG ht_h0 (by decide)) eq5 (fun f6 H locs hP hD hS g8 k7 => ?_))
  have hT := hT.up ht_h0 g8 k7 ⟨_, _, _, _, _, _, _, _, _, _, _, _, _, rfl, ro4_0, ro4_1, (by first | decide | omega | (have : (0 : Int32).toInt = 0 := rfl; omega)), ro4_3, ro4_4, ro4_5, ro4_6⟩
  have hH := hH.wt ht_h0 (by decide) k7
  refine lv_aload_n hx hb dX2_readTape_5 rfl (lv_at hl 0 rfl) ?_
  refine lv_iconst (v := 0) hx hb dX2_readTape_6 (by decide) ?_
  refine tpk_pos (tp_in hG ht_h0 (by decide)) g8 (fun q9 eq9 => ?_)
  refine va_put (D := (dC, dI)) (ci := 2) (v := .int 0) (ty := .int) (C := RX2) (T := TX2) (N := 16) hx hb hts hfX2 tyX2 tyX2_ok nmX2 hown hK hP hD hS q9 eq9 rfl 8 (by decide) (hts (.fieldLink RX2 32 "ColdShips$Reader" "cells" "I") wa_796) (fun _ h9 => h9) rfl (tyX2_ok 8 (by decide)) rfl rfl (Nat.le_of_ble_eq_true rfl) dX2_readTape_7 (tp_k (.inr (2, [.ref (ρ h0 0), .int o4_x1, .int o4_x2, .int o4_x3, .int o4_x4, .int 0, .int o4_x6, .ref (ρ h0 7), .int 0, .ref (ρ h0 9), .int o4_x10, .int o4_x11, .int o4_x12, .int o4_x13, .int o4_x14, .int o4_x15])) hD (tp_in hG ht_h0 (by decide)) eq9 (fun f10 H locs hP hD hS g12 k11 => ?_))
  have hT := hT.up ht_h0 g12 k11 ⟨_, _, _, _, _, _, _, _, _, _, _, _, _, rfl, ro4_0, ro4_1, (by first | decide | omega | (have : (0 : Int32).toInt = 0 := rfl; have : (0 : Int32).toInt = 0 := rfl; omega)), ro4_3, (by first | decide | omega | (have : (0 : Int32).toInt = 0 := rfl; have : (0 : Int32).toInt = 0 := rfl; omega)), ro4_5, ro4_6⟩
  have hH := hH.wt ht_h0 (by decide) k11
  refine lv_aload_n hx hb dX2_readTape_10 rfl (lv_at hl 0 rfl) ?_
  refine lv_iconst (v := 0) hx hb dX2_readTape_11 (by decide) ?_
  refine tpk_pos (tp_in hG ht_h0 (by decide)) g12 (fun q13 eq13 => ?_)
  refine va_put (D := (dC, dI)) (ci := 2) (v := .int 0) (ty := .int) (C := RX2) (T := TX2) (N := 16) hx hb hts hfX2 tyX2 tyX2_ok nmX2 hown hK hP hD hS q13 eq13 rfl 10 (by decide) (hts (.fieldLink RX2 35 "ColdShips$Reader" "sums" "I") wa_797) (fun _ h9 => h9) rfl (tyX2_ok 10 (by decide)) rfl rfl (Nat.le_of_ble_eq_true rfl) dX2_readTape_12 (tp_k (.inr (2, [.ref (ρ h0 0), .int o4_x1, .int o4_x2, .int o4_x3, .int o4_x4, .int 0, .int o4_x6, .ref (ρ h0 7), .int 0, .ref (ρ h0 9), .int 0, .int o4_x11, .int o4_x12, .int o4_x13, .int o4_x14, .int o4_x15])) hD (tp_in hG ht_h0 (by decide)) eq13 (fun f14 H locs hP hD hS g16 k15 => ?_))
  have hT := hT.up ht_h0 g16 k15 ⟨_, _, _, _, _, _, _, _, _, _, _, _, _, rfl, ro4_0, ro4_1, (by first | decide | omega | (have : (0 : Int32).toInt = 0 := rfl; have : (0 : Int32).toInt = 0 := rfl; have : (0 : Int32).toInt = 0 := rfl; omega)), ro4_3, (by first | decide | omega | (have : (0 : Int32).toInt = 0 := rfl; have : (0 : Int32).toInt = 0 := rfl; have : (0 : Int32).toInt = 0 := rfl; omega)), (by first | decide | omega | (have : (0 : Int32).toInt = 0 := rfl; have : (0 : Int32).toInt = 0 := rfl; have : (0 : Int32).toInt = 0 := rfl; omega)), ro4_6⟩
  have hH := hH.wt ht_h0 (by decide) k15
  refine lv_aload_n hx hb dX2_readTape_15 rfl (lv_at hl 0 rfl) ?_
  refine lv_iconst (v := 0) hx hb dX2_readTape_16 (by decide) ?_
  refine tpk_pos (tp_in hG ht_h0 (by decide)) g16 (fun q17 eq17 => ?_)
  refine va_put (D := (dC, dI)) (ci := 2) (v := .int 0) (ty := .int) (C := RX2) (T := TX2) (N := 16) hx hb hts hfX2 tyX2 tyX2_ok nmX2 hown hK hP hD hS q17 eq17 rfl 11 (by decide) (hts (.fieldLink RX2 38 "ColdShips$Reader" "leaves" "I") wa_798) (fun _ h9 => h9) rfl (tyX2_ok 11 (by decide)) rfl rfl (Nat.le_of_ble_eq_true rfl) dX2_readTape_17 (tp_k (.inr (2, [.ref (ρ h0 0), .int o4_x1, .int o4_x2, .int o4_x3, .int o4_x4, .int 0, .int o4_x6, .ref (ρ h0 7), .int 0, .ref (ρ h0 9), .int 0, .int 0, .int o4_x12, .int o4_x13, .int o4_x14, .int o4_x15])) hD (tp_in hG ht_h0 (by decide)) eq17 (fun f18 H locs hP hD hS g20 k19 => ?_))
  have hT := hT.up ht_h0 g20 k19 ⟨_, _, _, _, _, _, _, _, _, _, _, _, _, rfl, ro4_0, ro4_1, (by first | decide | omega | (have : (0 : Int32).toInt = 0 := rfl; have : (0 : Int32).toInt = 0 := rfl; have : (0 : Int32).toInt = 0 := rfl; have : (0 : Int32).toInt = 0 := rfl; omega)), ro4_3, (by first | decide | omega | (have : (0 : Int32).toInt = 0 := rfl; have : (0 : Int32).toInt = 0 := rfl; have : (0 : Int32).toInt = 0 := rfl; have : (0 : Int32).toInt = 0 := rfl; omega)), (by first | decide | omega | (have : (0 : Int32).toInt = 0 := rfl; have : (0 : Int32).toInt = 0 := rfl; have : (0 : Int32).toInt = 0 := rfl; have : (0 : Int32).toInt = 0 := rfl; omega)), ro4_6⟩
  have hH := hH.wt ht_h0 (by decide) k19
  refine lv_aload_n hx hb dX2_readTape_20 rfl (lv_at hl 0 rfl) ?_
  refine lv_iconst (v := 0) hx hb dX2_readTape_21 (by decide) ?_
  refine tpk_pos (tp_in hG ht_h0 (by decide)) g20 (fun q21 eq21 => ?_)
  refine va_put (D := (dC, dI)) (ci := 2) (v := .int 0) (ty := .int) (C := RX2) (T := TX2) (N := 16) hx hb hts hfX2 tyX2 tyX2_ok nmX2 hown hK hP hD hS q21 eq21 rfl 12 (by decide) (hts (.fieldLink RX2 41 "ColdShips$Reader" "brackets" "I") wa_799) (fun _ h9 => h9) rfl (tyX2_ok 12 (by decide)) rfl rfl (Nat.le_of_ble_eq_true rfl) dX2_readTape_22 (tp_k (.inr (2, [.ref (ρ h0 0), .int o4_x1, .int o4_x2, .int o4_x3, .int o4_x4, .int 0, .int o4_x6, .ref (ρ h0 7), .int 0, .ref (ρ h0 9), .int 0, .int 0, .int 0, .int o4_x13, .int o4_x14, .int o4_x15])) hD (tp_in hG ht_h0 (by decide)) eq21 (fun f22 H locs hP hD hS g24 k23 => ?_))
  have hT := hT.up ht_h0 g24 k23 ⟨_, _, _, _, _, _, _, _, _, _, _, _, _, rfl, ro4_0, ro4_1, (by first | decide | omega | (have : (0 : Int32).toInt = 0 := rfl; have : (0 : Int32).toInt = 0 := rfl; have : (0 : Int32).toInt = 0 := rfl; have : (0 : Int32).toInt = 0 := rfl; have : (0 : Int32).toInt = 0 := rfl; omega)), ro4_3, (by first | decide | omega | (have : (0 : Int32).toInt = 0 := rfl; have : (0 : Int32).toInt = 0 := rfl; have : (0 : Int32).toInt = 0 := rfl; have : (0 : Int32).toInt = 0 := rfl; have : (0 : Int32).toInt = 0 := rfl; omega)), (by first | decide | omega | (have : (0 : Int32).toInt = 0 := rfl; have : (0 : Int32).toInt = 0 := rfl; have : (0 : Int32).toInt = 0 := rfl; have : (0 : Int32).toInt = 0 := rfl; have : (0 : Int32).toInt = 0 := rfl; omega)), ro4_6⟩
  have hH := hH.wt ht_h0 (by decide) k23
  have hB : tp_fld (f22 h0) 12 = 0 := by rw [g24]; show (0 : Int32).toInt = 0; rfl
  refine lv_aload_n hx hb dX2_readTape_25 rfl (lv_at hl 0 rfl) ?_
  refine lv_iconst (v := 0) hx hb dX2_readTape_26 (by decide) ?_
  refine tpk_pos (tp_in hG ht_h0 (by decide)) g24 (fun q25 eq25 => ?_)
  refine va_put (D := (dC, dI)) (ci := 2) (v := .int 0) (ty := .int) (C := RX2) (T := TX2) (N := 16) hx hb hts hfX2 tyX2 tyX2_ok nmX2 hown hK hP hD hS q25 eq25 rfl 13 (by decide) (hts (.fieldLink RX2 44 "ColdShips$Reader" "windowFrom" "I") wa_800) (fun _ h9 => h9) rfl (tyX2_ok 13 (by decide)) rfl rfl (Nat.le_of_ble_eq_true rfl) dX2_readTape_27 (tp_k (.inr (2, [.ref (ρ h0 0), .int o4_x1, .int o4_x2, .int o4_x3, .int o4_x4, .int 0, .int o4_x6, .ref (ρ h0 7), .int 0, .ref (ρ h0 9), .int 0, .int 0, .int 0, .int 0, .int o4_x14, .int o4_x15])) hD (tp_in hG ht_h0 (by decide)) eq25 (fun f26 H locs hP hD hS g28 k27 => ?_))
  have hT := hT.up ht_h0 g28 k27 ⟨_, _, _, _, _, _, _, _, _, _, _, _, _, rfl, ro4_0, ro4_1, (by first | decide | omega | (have : (0 : Int32).toInt = 0 := rfl; have : (0 : Int32).toInt = 0 := rfl; have : (0 : Int32).toInt = 0 := rfl; have : (0 : Int32).toInt = 0 := rfl; have : (0 : Int32).toInt = 0 := rfl; have : (0 : Int32).toInt = 0 := rfl; omega)), ro4_3, (by first | decide | omega | (have : (0 : Int32).toInt = 0 := rfl; have : (0 : Int32).toInt = 0 := rfl; have : (0 : Int32).toInt = 0 := rfl; have : (0 : Int32).toInt = 0 := rfl; have : (0 : Int32).toInt = 0 := rfl; have : (0 : Int32).toInt = 0 := rfl; omega)), (by first | decide | omega | (have : (0 : Int32).toInt = 0 := rfl; have : (0 : Int32).toInt = 0 := rfl; have : (0 : Int32).toInt = 0 := rfl; have : (0 : Int32).toInt = 0 := rfl; have : (0 : Int32).toInt = 0 := rfl; have : (0 : Int32).toInt = 0 := rfl; omega)), ro4_6⟩
  have hH := hH.wt ht_h0 (by decide) k27
  have hB : tp_fld (f26 h0) 12 = 0 := by rw [g28]; show (0 : Int32).toInt = 0; rfl
  refine lv_aload_n hx hb dX2_readTape_30 rfl (lv_at hl 0 rfl) ?_
  refine lv_sipush (v := 2399) hx hb dX2_readTape_31 (by decide) ?_
  refine tpk_pos (tp_in hG ht_h0 (by decide)) g28 (fun q29 eq29 => ?_)
  refine va_put (D := (dC, dI)) (ci := 2) (v := .int 2399) (ty := .int) (C := RX2) (T := TX2) (N := 16) hx hb hts hfX2 tyX2 tyX2_ok nmX2 hown hK hP hD hS q29 eq29 rfl 14 (by decide) (hts (.fieldLink RX2 47 "ColdShips$Reader" "windowTo" "I") wa_801) (fun _ h9 => h9) rfl (tyX2_ok 14 (by decide)) rfl rfl (Nat.le_of_ble_eq_true rfl) dX2_readTape_34 (tp_k (.inr (2, [.ref (ρ h0 0), .int o4_x1, .int o4_x2, .int o4_x3, .int o4_x4, .int 0, .int o4_x6, .ref (ρ h0 7), .int 0, .ref (ρ h0 9), .int 0, .int 0, .int 0, .int 0, .int 2399, .int o4_x15])) hD (tp_in hG ht_h0 (by decide)) eq29 (fun f30 H locs hP hD hS g32 k31 => ?_))
  have hT := hT.up ht_h0 g32 k31 ⟨_, _, _, _, _, _, _, _, _, _, _, _, _, rfl, ro4_0, ro4_1, (by first | decide | omega | (have : (0 : Int32).toInt = 0 := rfl; have : (0 : Int32).toInt = 0 := rfl; have : (0 : Int32).toInt = 0 := rfl; have : (0 : Int32).toInt = 0 := rfl; have : (0 : Int32).toInt = 0 := rfl; have : (0 : Int32).toInt = 0 := rfl; have : (2399 : Int32).toInt = 2399 := rfl; omega)), ro4_3, (by first | decide | omega | (have : (0 : Int32).toInt = 0 := rfl; have : (0 : Int32).toInt = 0 := rfl; have : (0 : Int32).toInt = 0 := rfl; have : (0 : Int32).toInt = 0 := rfl; have : (0 : Int32).toInt = 0 := rfl; have : (0 : Int32).toInt = 0 := rfl; have : (2399 : Int32).toInt = 2399 := rfl; omega)), (by first | decide | omega | (have : (0 : Int32).toInt = 0 := rfl; have : (0 : Int32).toInt = 0 := rfl; have : (0 : Int32).toInt = 0 := rfl; have : (0 : Int32).toInt = 0 := rfl; have : (0 : Int32).toInt = 0 := rfl; have : (0 : Int32).toInt = 0 := rfl; have : (2399 : Int32).toInt = 2399 := rfl; omega)), ro4_6⟩
  have hH := hH.wt ht_h0 (by decide) k31
  have hB : tp_fld (f30 h0) 12 = 0 := by rw [g32]; show (0 : Int32).toInt = 0; rfl
  refine lv_aload_n hx hb dX2_readTape_37 rfl (lv_at hl 0 rfl) ?_
  refine lv_iconst (v := (-1)) hx hb dX2_readTape_38 (by decide) ?_
  refine tpk_pos (tp_in hG ht_h0 (by decide)) g32 (fun q33 eq33 => ?_)
  refine va_put (D := (dC, dI)) (ci := 2) (v := .int (-1)) (ty := .int) (C := RX2) (T := TX2) (N := 16) hx hb hts hfX2 tyX2 tyX2_ok nmX2 hown hK hP hD hS q33 eq33 rfl 15 (by decide) (hts (.fieldLink RX2 50 "ColdShips$Reader" "wantedPlace" "I") wa_802) (fun _ h9 => h9) rfl (tyX2_ok 15 (by decide)) rfl rfl (Nat.le_of_ble_eq_true rfl) dX2_readTape_39 (tp_k (.inr (2, [.ref (ρ h0 0), .int o4_x1, .int o4_x2, .int o4_x3, .int o4_x4, .int 0, .int o4_x6, .ref (ρ h0 7), .int 0, .ref (ρ h0 9), .int 0, .int 0, .int 0, .int 0, .int 2399, .int (-1)])) hD (tp_in hG ht_h0 (by decide)) eq33 (fun f34 H locs hP hD hS g36 k35 => ?_))
  have hT := hT.up ht_h0 g36 k35 ⟨_, _, _, _, _, _, _, _, _, _, _, _, _, rfl, ro4_0, ro4_1, (by first | decide | omega | (have : (0 : Int32).toInt = 0 := rfl; have : (0 : Int32).toInt = 0 := rfl; have : (0 : Int32).toInt = 0 := rfl; have : (0 : Int32).toInt = 0 := rfl; have : (0 : Int32).toInt = 0 := rfl; have : (0 : Int32).toInt = 0 := rfl; have : (2399 : Int32).toInt = 2399 := rfl; have : ((-1) : Int32).toInt = (-1) := rfl; omega)), ro4_3, (by first | decide | omega | (have : (0 : Int32).toInt = 0 := rfl; have : (0 : Int32).toInt = 0 := rfl; have : (0 : Int32).toInt = 0 := rfl; have : (0 : Int32).toInt = 0 := rfl; have : (0 : Int32).toInt = 0 := rfl; have : (0 : Int32).toInt = 0 := rfl; have : (2399 : Int32).toInt = 2399 := rfl; have : ((-1) : Int32).toInt = (-1) := rfl; omega)), (by first | decide | omega | (have : (0 : Int32).toInt = 0 := rfl; have : (0 : Int32).toInt = 0 := rfl; have : (0 : Int32).toInt = 0 := rfl; have : (0 : Int32).toInt = 0 := rfl; have : (0 : Int32).toInt = 0 := rfl; have : (0 : Int32).toInt = 0 := rfl; have : (2399 : Int32).toInt = 2399 := rfl; have : ((-1) : Int32).toInt = (-1) := rfl; omega)), ro4_6⟩
  have hH := hH.wt ht_h0 (by decide) k35
  have hB : tp_fld (f34 h0) 12 = 0 := by rw [g36]; show (0 : Int32).toInt = 0; rfl
  refine lv_aload_n hx hb dX2_readTape_42 rfl (lv_at hl 0 rfl) ?_
  refine tpk_pos (tp_in hG ht_h0 (by decide)) g36 (fun q37 eq37 => ?_)
  have hFc := tp_fr hD hS hA
  refine va_callv (va_runV (As := []) (rest := []) ⟨hx, hb, hml, hown, hts⟩ (t_X2_advance l dC dI _ Ω κ τ ν ρ L f34 hG hT h0 0 ht_h0 hB) (cwV 0 hts gX2_readTape_X2_advance rfl rfl rfl ⟨rfl, pd_X2_advance⟩ ⟨Nat.le_of_ble_eq_true rfl, Nat.le_of_ble_eq_true rfl⟩) ⟨pz_blind, va_recv hK hP (ci := 2) (q0 := q37) rfl eq37, pz_pre hP hK hD hN⟩ rfl rfl hl.1 rfl (lv_room (Nat.le_of_ble_eq_true rfl)) dX2_readTape_43 ⟨Nat.le_of_ble_eq_true rfl, Nat.le_of_ble_eq_true rfl⟩) hS (fun q _ h => hFc q h) hFc (fun f40 t H1 locs ht hvm hw39 hB hz1 hk1 hS => ?_)
  refine tn_3 hw39 (fun hT hF41 hw39p => ?_); clear hw39
  have hHp := hH; have hH := hH.pool hF41 (by decide)
  have hP := hB.1; rw [ht] at hP; have hD := tp_ad f40 hD; clear hB hFc hz1 hk1; subst ht; generalize t.heap = H at hP hS ⊢
  have hB := hw39p
  refine lv_aload_n hx hb dX2_readTape_46 rfl (lv_at hl 0 rfl) ?_
  refine tpk_3 hT ht_h0 (fun o42_x1 o42_x2 o42_x3 o42_x4 o42_x5 o42_x6 o42_x8 o42_x10 o42_x11 o42_x12 o42_x13 o42_x14 o42_x15 hf_o42 ro42_0 ro42_1 ro42_2 ro42_3 ro42_4 ro42_5 ro42_6 => ?_)
  have bo42 : o42_x12.toInt = 0 := by have q9 := hB; rw [hf_o42] at q9; exact q9
  refine tpk_pos (tp_in hG ht_h0 (by decide)) hf_o42 (fun q43 eq43 => ?_)
  have hFc := tp_fr hD hS hA
  refine va_calli (va_runV (As := []) (rest := []) ⟨hx, hb, hml, hown, hts⟩ (t_X2_readClauses l dC dI _ Ω κ τ ν ρ L f40 hG hT adK adV zv h0 0 ht_h0 hB (by omega)) (cwV 0 hts gX2_readTape_X2_readClauses rfl rfl rfl ⟨rfl, pd_X2_readClauses⟩ ⟨Nat.le_of_ble_eq_true rfl, Nat.le_of_ble_eq_true rfl⟩) ⟨pw_blindZ, va_recv hK hP (ci := 2) (q0 := q43) rfl eq43, pw_preZ hP hK hD hN hZ hS (tp_fr hD hS hA)⟩ rfl rfl hl.1 rfl (lv_room (Nat.le_of_ble_eq_true rfl)) dX2_readTape_47 ⟨Nat.le_of_ble_eq_true rfl, Nat.le_of_ble_eq_true rfl⟩) hS (fun q _ h => hFc q h) hFc (fun r44 f46 t H1 locs ht hvm hw45 hB hz1 hk1 hS => ?_)
  refine tn_4 hw45 (fun hT hF47 hw45r hw45p => ?_); clear hw45
  have hHp := hH; have hH := hH.pool hF47 (by decide)
  have hP := hB.1; rw [ht] at hP; have hD := tp_ad f46 hD; clear hB hFc hz1 hk1; subst ht; generalize t.heap = H at hP hS ⊢
  have hB := hw45p
  refine lv_istore_n (lv' := [(1, .int r44), (0, .ref h0)]) hx hb dX2_readTape_50 rfl hl (by decide) rfl (fun ls hl => ?_)
  refine lv_aload_n hx hb dX2_readTape_51 rfl (lv_at hl 1 rfl) ?_
  refine lv_iload_n hx hb dX2_readTape_52 rfl (lv_at hl 0 rfl) ?_
  refine lv_if_eq (tgt := 60) hx hb dX2_readTape_53 (by decide) (fun c48 => ?_) (fun c48 => ?_)
  · have ic48 : r44.toInt = 0 := zi_eq rfl rfl c48
    refine lv_aload_n hx hb dX2_readTape_60 rfl (lv_at hl 1 rfl) ?_
    refine tpk_3 hT ht_h0 (fun o49_x1 o49_x2 o49_x3 o49_x4 o49_x5 o49_x6 o49_x8 o49_x10 o49_x11 o49_x12 o49_x13 o49_x14 o49_x15 hf_o49 ro49_0 ro49_1 ro49_2 ro49_3 ro49_4 ro49_5 ro49_6 => ?_)
    have bo49 : o49_x12.toInt = 0 := by have q9 := hB; rw [hf_o49] at q9; exact q9
    refine tpk_pos (tp_in hG ht_h0 (by decide)) hf_o49 (fun q50 eq50 => ?_)
    have ro49_1 := tp_hu ro49_1; have ro49_6 := tp_hu ro49_6
    refine va_get (D := (dC, dI)) (ci := 2) (v := .int o49_x3) (C := RX2) (T := TX2) (N := 16) hx hb hts hfX2 hown hK hP q50 eq50 rfl 3 (by decide) (hts (.fieldLink RX2 60 "ColdShips$Reader" "place" "I") wa_803) (fun _ h9 => h9) rfl dX2_readTape_61 ?_
    refine va_put (D := (dC, dI)) (ci := 2) (v := .int o49_x3) (ty := .int) (C := RX2) (T := TX2) (N := 16) hx hb hts hfX2 tyX2 tyX2_ok nmX2 hown hK hP hD hS q50 eq50 rfl 2 (by decide) (hts (.fieldLink RX2 15 "ColdShips$Reader" "faultAt" "I") wa_120) (fun _ h9 => h9) rfl (tyX2_ok 2 (by decide)) rfl rfl (Nat.le_of_ble_eq_true rfl) dX2_readTape_64 (tp_k (.inr (2, [.ref (ρ h0 0), .int o49_x1, .int o49_x3, .int o49_x3, .int o49_x4, .int o49_x5, .int o49_x6, .ref (ρ h0 7), .int o49_x8, .ref (ρ h0 9), .int o49_x10, .int o49_x11, .int o49_x12, .int o49_x13, .int o49_x14, .int o49_x15])) hD (tp_in hG ht_h0 (by decide)) eq50 (fun f51 H locs hP hD hS g53 k52 => ?_))
    have hT := hT.up ht_h0 g53 k52 ⟨_, _, _, _, _, _, _, _, _, _, _, _, _, rfl, ro49_0, ro49_1, ro49_2, ro49_3, ro49_4, ro49_5, ro49_6⟩
    have hH := hH.wt ht_h0 (by decide) k52
    have hB : tp_fld (f51 h0) 12 = 0 := by rw [g53]; show (o49_x12 : Int32).toInt = 0; omega
    refine lv_iload_n hx hb dX2_readTape_67 rfl (lv_at hl 0 rfl) ?_
    refine lv_if_ne (tgt := 73) hx hb dX2_readTape_68 (by decide) (fun c54 => ?_) (fun c54 => ?_)
    · have ic54 : r44.toInt ≠ 0 := zi_ne rfl rfl c54
      exfalso; omega
    · have ic54 : r44.toInt = 0 := zi_nef rfl rfl c54
      refine lv_null hx hb dX2_readTape_71 ?_
      refine tp_widen 3 805 (Nat.le_of_ble_eq_true rfl) (Nat.le_of_ble_eq_true rfl) ?_
      exact W.aret (v := .null) hx hb hr (Or.inl ⟨_, rfl⟩) (Or.inl rfl) (fun t ht hW => ⟨⟨none, (τ, ν, ρ, L, f51), rfl, ⟨⟨hG, hT, hH⟩, (Or.inl rfl)⟩, by rw [ht]; exact hP, va_K.moved hW.alike hK, hD⟩, hS.F ht⟩) hS.2.2 dX2_readTape_72
  · have ic48 : r44.toInt ≠ 0 := zi_eqf rfl rfl c48
    refine lv_iconst (v := (-1)) hx hb dX2_readTape_56 (by decide) ?_
    refine lv_goto (tgt := 64) hx hb dX2_readTape_57 (by decide) ?_
    refine tpk_3 hT ht_h0 (fun o55_x1 o55_x2 o55_x3 o55_x4 o55_x5 o55_x6 o55_x8 o55_x10 o55_x11 o55_x12 o55_x13 o55_x14 o55_x15 hf_o55 ro55_0 ro55_1 ro55_2 ro55_3 ro55_4 ro55_5 ro55_6 => ?_)
    have bo55 : o55_x12.toInt = 0 := by have q9 := hB; rw [hf_o55] at q9; exact q9
    refine tpk_pos (tp_in hG ht_h0 (by decide)) hf_o55 (fun q56 eq56 => ?_)
    refine va_put (D := (dC, dI)) (ci := 2) (v := .int (-1)) (ty := .int) (C := RX2) (T := TX2) (N := 16) hx hb hts hfX2 tyX2 tyX2_ok nmX2 hown hK hP hD hS q56 eq56 rfl 2 (by decide) (hts (.fieldLink RX2 15 "ColdShips$Reader" "faultAt" "I") wa_120) (fun _ h9 => h9) rfl (tyX2_ok 2 (by decide)) rfl rfl (Nat.le_of_ble_eq_true rfl) dX2_readTape_64 (tp_k (.inr (2, [.ref (ρ h0 0), .int o55_x1, .int (-1), .int o55_x3, .int o55_x4, .int o55_x5, .int o55_x6, .ref (ρ h0 7), .int o55_x8, .ref (ρ h0 9), .int o55_x10, .int o55_x11, .int o55_x12, .int o55_x13, .int o55_x14, .int o55_x15])) hD (tp_in hG ht_h0 (by decide)) eq56 (fun f57 H locs hP hD hS g59 k58 => ?_))
    have hT := hT.up ht_h0 g59 k58 ⟨_, _, _, _, _, _, _, _, _, _, _, _, _, rfl, ro55_0, ro55_1, ro55_2, ro55_3, ro55_4, ro55_5, ro55_6⟩
    have hH := hH.wt ht_h0 (by decide) k58
    have hB : tp_fld (f57 h0) 12 = 0 := by rw [g59]; show (o55_x12 : Int32).toInt = 0; omega
    refine lv_iload_n hx hb dX2_readTape_67 rfl (lv_at hl 0 rfl) ?_
    refine lv_if_ne (tgt := 73) hx hb dX2_readTape_68 (by decide) (fun c60 => ?_) (fun c60 => ?_)
    · have ic60 : r44.toInt ≠ 0 := zi_ne rfl rfl c60
      refine lv_aload_n hx hb dX2_readTape_73 rfl (lv_at hl 1 rfl) ?_
      refine tpk_pos (tp_in hG ht_h0 (by decide)) g59 (fun q61 eq61 => ?_)
      refine va_get (D := (dC, dI)) (ci := 2) (v := .ref (ρ h0 9)) (C := RX2) (T := TX2) (N := 16) hx hb hts hfX2 hown hK hP q61 eq61 rfl 9 (by decide) (hts (.fieldLink RX2 23 "ColdShips$Reader" "starts" "[I") wa_122) (fun _ h9 => h9) rfl dX2_readTape_74 ?_
      refine lv_aload_n hx hb dX2_readTape_77 rfl (lv_at hl 1 rfl) ?_
      have ro55_5 := tp_hu ro55_5
      refine va_get (D := (dC, dI)) (ci := 2) (v := .int o55_x10) (C := RX2) (T := TX2) (N := 16) hx hb hts hfX2 hown hK hP q61 eq61 rfl 10 (by decide) (hts (.fieldLink RX2 35 "ColdShips$Reader" "sums" "I") wa_797) (fun _ h9 => h9) rfl dX2_readTape_78 ?_
      refine lv_aload_n hx hb dX2_readTape_81 rfl (lv_at hl 1 rfl) ?_
      have ro55_4 := tp_hu ro55_4
      refine va_get (D := (dC, dI)) (ci := 2) (v := .int o55_x8) (C := RX2) (T := TX2) (N := 16) hx hb hts hfX2 hown hK hP q61 eq61 rfl 8 (by decide) (hts (.fieldLink RX2 32 "ColdShips$Reader" "cells" "I") wa_796) (fun _ h9 => h9) rfl dX2_readTape_82 ?_
      refine tpk_20 hT y3 y3n (fun g63 hf_o62 => ?_)
      refine tpk_pos (tp_in hG y3 (by decide)) hf_o62 (fun q64 eq64 => ?_)
      refine va_iast hx hb hK hP hD hS q64 0 eq64 rfl (vp_in_iff.mpr ⟨by omega, by omega⟩) dX2_readTape_85 (tp_k (.inl (κ 0, 13, .inl (upd g63 o55_x10.toNatClampNeg o55_x8))) hD (tp_in hG y3 (by decide)) eq64 (fun f65 H locs hP hD hS g67 k66 => ?_))
      have hT := hT.up y3 g67 k66 (tp_o20 y3n)
      have hH := hH.wt y3 (by decide) k66
      have hB : tp_fld (f65 h0) 12 = 0 := by rw [k66 _ (tp_ne ht_h0 y3 (by decide))]; exact hB
      generalize (upd g63 o55_x10.toNatClampNeg o55_x8) = g68 at g67
      refine va_new (ci := 0) (fs := [.null, .null, .int 0, .int 0, .int 0]) (C := RX0) (T := TX0) (N := 5) hx hb hts hfX0 tyX0 tyX0_ok hown (hts (.classLink RX2 63 RX0) wa_804) (hts (.instantiable RX0 5) wa_805) (hts (.initialized RX0) wa_806) hK hP hD hS hA rfl (fun j hj => by rcases tpj_5 j hj with rfl | rfl | rfl | rfl | rfl <;> rfl) (Nat.le_of_ble_eq_true rfl) (Nat.le_of_ble_eq_true rfl) dX2_readTape_86 (fun q69 H hP hD hS => ?_)
      refine Exists.elim (tp_grow hG hT hP hD) (fun L79 hE90 => Exists.elim hE90 (fun f78 hE91 => tn_10 hE91 (fun hP hD hg70 ht71 hs72 hq73 hz74 hn75 hf76 ho77 => ?_)))
      clear hE91 hE90
      have hn80 : ∀ a, a ∈ L → a ≠ q69 := fun a ha => hn75 a (hH.1 a ha)
      have ne81 : h0 ≠ q69 := hn75 _ (tp_in hG ht_h0 (by decide))
      have hG := hg70
      have hT := ht71
      have hH := hH.gr hs72 hn75 ho77
      refine lv_dup hx hb dX2_readTape_89 rfl ?_
      refine lv_aload_n hx hb dX2_readTape_90 rfl (lv_at hl 1 rfl) ?_
      refine tgk_3 hG ht_h0 (fun y82 y82n y83 y83n y84 y84n => ?_)
      refine tpk_3 hT ht_h0 (fun o85_x1 o85_x2 o85_x3 o85_x4 o85_x5 o85_x6 o85_x8 o85_x10 o85_x11 o85_x12 o85_x13 o85_x14 o85_x15 hf_o85 ro85_0 ro85_1 ro85_2 ro85_3 ro85_4 ro85_5 ro85_6 => ?_)
      refine tpk_pos (tp_in hG ht_h0 (by decide)) hf_o85 (fun q86 eq86 => ?_)
      refine va_get (D := (dC, dI)) (ci := 2) (v := .ref (ρ h0 7)) (C := RX2) (T := TX2) (N := 16) hx hb hts hfX2 hown hK hP q86 eq86 rfl 7 (by decide) (hts (.fieldLink RX2 19 "ColdShips$Reader" "code" "[I") wa_121) (fun _ h9 => h9) rfl dX2_readTape_91 ?_
      refine lv_aload_n hx hb dX2_readTape_94 rfl (lv_at hl 1 rfl) ?_
      have ro85_4 := tp_hu ro85_4
      refine va_get (D := (dC, dI)) (ci := 2) (v := .int o85_x8) (C := RX2) (T := TX2) (N := 16) hx hb hts hfX2 hown hK hP q86 eq86 rfl 8 (by decide) (hts (.fieldLink RX2 32 "ColdShips$Reader" "cells" "I") wa_796) (fun _ h9 => h9) rfl dX2_readTape_95 ?_
      obtain ⟨b87, eb87⟩ : ∃ b : Nat, b = (ρ h0 7) := ⟨_, rfl⟩
      have tb87 : τ b87 = 28 := by rw [eb87]; exact y83
      rw [← eb87]
      have hFc := tp_fr hD hS hA
      refine va_callq (va_runS (As := [.ref b87, .int o85_x8]) (rest := [.ref q69, .ref q69]) ⟨hx, hb, hml, hown, hts⟩ (t_J7_copyOf_28 l dC dI _ Ω κ τ ν ρ L79 f78 hG hT b87 o85_x8 tb87 (by first | decide | omega) (by rw [eb87]; omega)) (va_cwS 2 hts gX2_readTape_J7_copyOf_59c91 rfl rfl rfl pd_J7_copyOf_59c91 ⟨Nat.le_of_ble_eq_true rfl, Nat.le_of_ble_eq_true rfl⟩) ⟨pz_blind, pz_pre hP hK hD hN⟩ rfl rfl hl.1 rfl (lv_room (Nat.le_of_ble_eq_true rfl)) dX2_readTape_98 ⟨Nat.le_of_ble_eq_true rfl, Nat.le_of_ble_eq_true rfl⟩) hS (fun q _ h => hFc q h) hFc (fun r89 x88 t H1 locs ht hvm hw90 hB hz1 hk1 hS => ?_)
      obtain ⟨τ_92, ν_92, ρ_92, L_92, f91⟩ := x88
      obtain ⟨⟨hG9, hT9, hH9⟩, hw90p⟩ := hw90
      have hc93 := hH9.2 _ (tp_in hG ht_h0 (by decide)) (fun z => by cases z)
      have hc94 := hH9.2 _ (tp_in hG tb87 (by decide)) (fun z => by cases z)
      have hc95 := hH9.2 _ hq73 (fun z => by cases z)
      have hf96 : f91 q69 = .inr (0, [.null, .null, .int 0, .int 0, .int 0]) := (hc95.2.2.2 (by rw [hz74]; decide)).trans hf76
      have hl97 := hH9.1 _ hq73
      have hH := hH.call hH9 (by decide) (fun a _ _ z => by cases z)
      have hG : tp_G τ_92 ν_92 ρ_92 L_92 := hG9; have hT : tp_T Ω κ τ_92 ν_92 ρ_92 f91 := hT9
      have hH : tp_H τ ν ρ L f [3, 20, 28] none τ_92 ν_92 ρ_92 L_92 f91 := hH
      have hP := hB.1; rw [ht] at hP; have hD := tp_Dw hB.2.2 hFc; clear hB hFc hz1 hk1; subst ht; generalize t.heap = H at hP hS ⊢
      have hP : va_P (dC, dI) vwCl (va_pl L_92 f91) H := hP
      have hD : va_D A (va_pl L_92 f91) := hD
      have ht98 : τ_92 h0 = 3 := hc93.1.trans ht_h0
      have ht99 : τ_92 b87 = 28 := hc94.1.trans tb87
      have hz100 : τ_92 q69 = 0 := hc95.1.trans hz74
      clear ht_h0 tb87 hz74 hc93 hc94 hc95 hG9 hT9 hH9
      obtain ⟨b101, h102, h102t, h102n⟩ := hw90p
      rw [h102]
      show W _ _ _ _ _ _ _ _ _ _ _ _ _ _ _ (F0 m 101 ls (.ref b101 :: [.ref q69, .ref q69]))
      have h102t : τ_92 b101 = 28 := h102t; have h102n : ν_92 b101 = o85_x8.toNatClampNeg := h102n
      refine lv_aload_n hx hb dX2_readTape_101 rfl (lv_at hl 1 rfl) ?_
      refine tgk_3 hG ht98 (fun y103 y103n y104 y104n y105 y105n => ?_)
      refine tpk_3 hT ht98 (fun o106_x1 o106_x2 o106_x3 o106_x4 o106_x5 o106_x6 o106_x8 o106_x10 o106_x11 o106_x12 o106_x13 o106_x14 o106_x15 hf_o106 ro106_0 ro106_1 ro106_2 ro106_3 ro106_4 ro106_5 ro106_6 => ?_)
      refine tpk_pos (tp_in hG ht98 (by decide)) hf_o106 (fun q107 eq107 => ?_)
      refine va_get (D := (dC, dI)) (ci := 2) (v := .ref (ρ_92 h0 9)) (C := RX2) (T := TX2) (N := 16) hx hb hts hfX2 hown hK hP q107 eq107 rfl 9 (by decide) (hts (.fieldLink RX2 23 "ColdShips$Reader" "starts" "[I") wa_122) (fun _ h9 => h9) rfl dX2_readTape_102 ?_
      refine lv_aload_n hx hb dX2_readTape_105 rfl (lv_at hl 1 rfl) ?_
      have ro106_5 := tp_hu ro106_5
      refine va_get (D := (dC, dI)) (ci := 2) (v := .int o106_x10) (C := RX2) (T := TX2) (N := 16) hx hb hts hfX2 hown hK hP q107 eq107 rfl 10 (by decide) (hts (.fieldLink RX2 35 "ColdShips$Reader" "sums" "I") wa_797) (fun _ h9 => h9) rfl dX2_readTape_106 ?_
      refine lv_iconst (v := 1) hx hb dX2_readTape_109 (by decide) ?_
      refine lv_iadd hx hb dX2_readTape_110 ?_
      refine lv_topi (fun z108 ez108 => ?_)
      have iz108 : z108.toInt = o106_x10.toInt + 1 := zi_add ez108 rfl rfl (by omega) (by omega)
      obtain ⟨b109, eb109⟩ : ∃ b : Nat, b = (ρ_92 h0 9) := ⟨_, rfl⟩
      have tb109 : τ_92 b109 = 20 := by rw [eb109]; exact y105
      rw [← eb109]
      have hFc := tp_fr hD hS hA
      refine va_callq (va_runS (As := [.ref b109, .int z108]) (rest := [.ref b101, .ref q69, .ref q69]) ⟨hx, hb, hml, hown, hts⟩ (t_J7_copyOf_20 l dC dI _ Ω κ τ_92 ν_92 ρ_92 L_92 f91 hG hT b109 z108 tb109 (by first | decide | omega) (by rw [eb109]; omega)) (va_cwS 2 hts gX2_readTape_J7_copyOf_59c91 rfl rfl rfl pd_J7_copyOf_59c91 ⟨Nat.le_of_ble_eq_true rfl, Nat.le_of_ble_eq_true rfl⟩) ⟨pz_blind, pz_pre hP hK hD hN⟩ rfl rfl hl.1 rfl (lv_room (Nat.le_of_ble_eq_true rfl)) dX2_readTape_111 ⟨Nat.le_of_ble_eq_true rfl, Nat.le_of_ble_eq_true rfl⟩) hS (fun q _ h => hFc q h) hFc (fun r111 x110 t H1 locs ht hvm hw112 hB hz1 hk1 hS => ?_)
      obtain ⟨τ_114, ν_114, ρ_114, L_114, f113⟩ := x110
      obtain ⟨⟨hG9, hT9, hH9⟩, hw112p⟩ := hw112
      have hc115 := hH9.2 _ (tp_in hG ht98 (by decide)) (fun z => by cases z)
      have hc116 := hH9.2 _ (tp_in hG ht99 (by decide)) (fun z => by cases z)
      have hc117 := hH9.2 _ (tp_in hG h102t (by decide)) (fun z => by cases z)
      have hc118 := hH9.2 _ (tp_in hG tb109 (by decide)) (fun z => by cases z)
      have hc119 := hH9.2 _ hl97 (fun z => by cases z)
      have hf120 : f113 q69 = .inr (0, [.null, .null, .int 0, .int 0, .int 0]) := (hc119.2.2.2 (by rw [hz100]; decide)).trans hf96
      have hl121 := hH9.1 _ hl97
      have hH := hH.call hH9 (by decide) (fun a _ _ z => by cases z)
      have hG : tp_G τ_114 ν_114 ρ_114 L_114 := hG9; have hT : tp_T Ω κ τ_114 ν_114 ρ_114 f113 := hT9
      have hH : tp_H τ ν ρ L f [3, 20, 28] none τ_114 ν_114 ρ_114 L_114 f113 := hH
      have hP := hB.1; rw [ht] at hP; have hD := tp_Dw hB.2.2 hFc; clear hB hFc hz1 hk1; subst ht; generalize t.heap = H at hP hS ⊢
      have hP : va_P (dC, dI) vwCl (va_pl L_114 f113) H := hP
      have hD : va_D A (va_pl L_114 f113) := hD
      have ht122 : τ_114 h0 = 3 := hc115.1.trans ht98
      have ht123 : τ_114 b87 = 28 := hc116.1.trans ht99
      have ht124 : τ_114 b101 = 28 := hc117.1.trans h102t
      have hn125 : ν_114 b101 = o85_x8.toNatClampNeg := hc117.2.1.trans h102n
      have ht126 : τ_114 b109 = 20 := hc118.1.trans tb109
      have hz127 : τ_114 q69 = 0 := hc119.1.trans hz100
      clear ht98 ht99 h102t h102n tb109 hz100 hc115 hc116 hc117 hc118 hc119 hG9 hT9 hH9
      obtain ⟨b128, h129, h129t, h129n⟩ := hw112p
      rw [h129]
      show W _ _ _ _ _ _ _ _ _ _ _ _ _ _ _ (F0 m 114 ls (.ref b128 :: [.ref b101, .ref q69, .ref q69]))
      have h129t : τ_114 b128 = 20 := h129t; have h129n : ν_114 b128 = z108.toNatClampNeg := h129n
      refine lv_aload_n hx hb dX2_readTape_114 rfl (lv_at hl 1 rfl) ?_
      refine tgk_3 hG ht122 (fun y130 y130n y131 y131n y132 y132n => ?_)
      refine tpk_3 hT ht122 (fun o133_x1 o133_x2 o133_x3 o133_x4 o133_x5 o133_x6 o133_x8 o133_x10 o133_x11 o133_x12 o133_x13 o133_x14 o133_x15 hf_o133 ro133_0 ro133_1 ro133_2 ro133_3 ro133_4 ro133_5 ro133_6 => ?_)
      refine tpk_pos (tp_in hG ht122 (by decide)) hf_o133 (fun q134 eq134 => ?_)
      refine va_get (D := (dC, dI)) (ci := 2) (v := .int o133_x13) (C := RX2) (T := TX2) (N := 16) hx hb hts hfX2 hown hK hP q134 eq134 rfl 13 (by decide) (hts (.fieldLink RX2 44 "ColdShips$Reader" "windowFrom" "I") wa_800) (fun _ h9 => h9) rfl dX2_readTape_115 ?_
      refine lv_aload_n hx hb dX2_readTape_118 rfl (lv_at hl 1 rfl) ?_
      refine va_get (D := (dC, dI)) (ci := 2) (v := .int o133_x14) (C := RX2) (T := TX2) (N := 16) hx hb hts hfX2 hown hK hP q134 eq134 rfl 14 (by decide) (hts (.fieldLink RX2 47 "ColdShips$Reader" "windowTo" "I") wa_801) (fun _ h9 => h9) rfl dX2_readTape_119 ?_
      refine lv_aload_n hx hb dX2_readTape_122 rfl (lv_at hl 1 rfl) ?_
      refine va_get (D := (dC, dI)) (ci := 2) (v := .int o133_x15) (C := RX2) (T := TX2) (N := 16) hx hb hts hfX2 hown hK hP q134 eq134 rfl 15 (by decide) (hts (.fieldLink RX2 50 "ColdShips$Reader" "wantedPlace" "I") wa_802) (fun _ h9 => h9) rfl dX2_readTape_123 ?_
      have := zi_cn o85_x8
      have := zi_cn z108
      have hFc := tp_fr hD hS hA
      refine va_callv (va_runI (As := [.ref b101, .ref b128, .int o133_x13, .int o133_x14, .int o133_x15]) (rest := [.ref q69]) ⟨hx, hb, hml, hown, hts⟩ (t_X0_init l dC dI _ Ω κ τ_114 ν_114 ρ_114 L_114 f113 hG hT q69 b101 b128 o133_x13 o133_x14 o133_x15 hl121 hz127 hf120 ht124 h129t (by first | omega | (omega))) (cwI 5 hts ggX2_readTape_X0_init rfl rfl rfl (hts (.initialized RX0) wa_806) (hts (.methodLink RX2 71 yX0_init) wa_970) (hts (.instanceMethod yX0_init) wa_971) rfl pd_X0_init ⟨Nat.le_of_ble_eq_true rfl, Nat.le_of_ble_eq_true rfl⟩) ⟨pz_blind, pz_pre hP hK hD hN⟩ rfl rfl hl.1 rfl (lv_room (Nat.le_of_ble_eq_true rfl)) dX2_readTape_126 ⟨Nat.le_of_ble_eq_true rfl, Nat.le_of_ble_eq_true rfl⟩) hS (fun q _ h => hFc q h) hFc (fun x135 t H1 locs ht hvm hw137 hB hz1 hk1 hS => ?_)
      obtain ⟨τ_139, ν_139, ρ_139, L_139, f138⟩ := x135
      obtain ⟨⟨hG9, hT9, hH9⟩, hw137p⟩ := hw137
      have hc140 := hH9.2 _ (tp_in hG ht122 (by decide)) (fun z => ne81 (Option.some.inj z))
      have hc141 := hH9.2 _ (tp_in hG ht123 (by decide)) (fun z => (Ne.symm (tp_ne0 hz127 ht123 (by decide))) (Option.some.inj z))
      have hc142 := hH9.2 _ (tp_in hG ht124 (by decide)) (fun z => (Ne.symm (tp_ne0 hz127 ht124 (by decide))) (Option.some.inj z))
      have hc143 := hH9.2 _ (tp_in hG ht126 (by decide)) (fun z => (Ne.symm (tp_ne0 hz127 ht126 (by decide))) (Option.some.inj z))
      have hc144 := hH9.2 _ (tp_in hG h129t (by decide)) (fun z => (Ne.symm (tp_ne0 hz127 h129t (by decide))) (Option.some.inj z))
      have hH := hH.call hH9 (by decide) (fun a ha _ z => hn80 a ha (Option.some.inj z))
      have hG : tp_G τ_139 ν_139 ρ_139 L_139 := hG9; have hT : tp_T Ω κ τ_139 ν_139 ρ_139 f138 := hT9
      have hH : tp_H τ ν ρ L f [3, 20, 28] none τ_139 ν_139 ρ_139 L_139 f138 := hH
      have hP := hB.1; rw [ht] at hP; have hD := tp_Dw hB.2.2 hFc; clear hB hFc hz1 hk1; subst ht; generalize t.heap = H at hP hS ⊢
      have hP : va_P (dC, dI) vwCl (va_pl L_139 f138) H := hP
      have hD : va_D A (va_pl L_139 f138) := hD
      have ht145 : τ_139 h0 = 3 := hc140.1.trans ht122
      have ht146 : τ_139 b87 = 28 := hc141.1.trans ht123
      have ht147 : τ_139 b101 = 28 := hc142.1.trans ht124
      have hn148 : ν_139 b101 = o85_x8.toNatClampNeg := hc142.2.1.trans hn125
      have ht149 : τ_139 b109 = 20 := hc143.1.trans ht126
      have ht150 : τ_139 b128 = 20 := hc144.1.trans h129t
      have hn151 : ν_139 b128 = z108.toNatClampNeg := hc144.2.1.trans h129n
      clear ht122 ht123 ht124 hn125 ht126 h129t h129n ne81 hc140 hc141 hc142 hc143 hc144 hG9 hT9 hH9
      have ht152 : τ_139 q69 = 1 := hw137p
      refine tp_widen 3 805 (Nat.le_of_ble_eq_true rfl) (Nat.le_of_ble_eq_true rfl) ?_
      exact W.aret (v := .ref q69) hx hb hr (Or.inl ⟨_, rfl⟩) (Or.inr ⟨_, rfl⟩) (fun t ht hW => ⟨⟨some q69, (τ_139, ν_139, ρ_139, L_139, f138), rfl, ⟨⟨hG, hT, hH⟩, (Or.inr ⟨q69, rfl, ht152⟩)⟩, by rw [ht]; exact hP, va_K.moved hW.alike hK, hD⟩, hS.F ht⟩) hS.2.2 dX2_readTape_129
    · have ic60 : r44.toInt = 0 := zi_nef rfl rfl c60
      exfalso; omega
set_option maxHeartbeats 4000000 in
set_option maxRecDepth 100000 in
theorem t_X11_contract (l : Launch) (dC : Nat → ClassId) (dI : Nat → Nat → Nat) (sz : Nat) (Ω : Nat → Nat → (Nat → Nat) → va_E → Prop) (κ : Nat → ClassId) (τ ν : Nat → Nat) (ρ : Nat → Nat → Nat) (L : List Nat) (f : Nat → va_E) (hG : tp_G τ ν ρ L) (hT : tp_T Ω κ τ ν ρ f) (adK adV : Nat → Nat) (zv : Option Nat) (h0 : Nat) (ht_h0 : τ h0 = 12) : Met l yX11_contract wqX11_contract ({ frames := 84, cells := 3, slots := 805, locals := 33200 }) (va_Pc [.ref h0] (pw_BZ dC dI (tp_K κ) (va_pl L f) sz adK adV zv)) (va_Qi (fun (r : Int32) (x : tp_S) => tp_PX Ω κ τ ν ρ L f [3, 11, 12, 20, 26, 28] none x ∧ tp_X τ ρ (fun n => n = 0) f x.2.2.2.2 ∧ tp_fld (x.2.2.2.2 (x.2.2.1 h0 0)) 0 = tp_fld (f (ρ h0 0)) 0 ∧ tp_fld (x.2.2.2.2 (x.2.2.1 h0 0)) 4 = tp_fld (f (ρ h0 0)) 4 ∧ tp_fld (x.2.2.2.2 (x.2.2.1 h0 0)) 5 = tp_fld (f (ρ h0 0)) 5 ∧ tp_fld (x.2.2.2.2 (x.2.2.1 h0 3)) 1 = 0) (fun (x : tp_S) (t : State) => pz_E dC dI (tp_K κ) (va_A (va_pl L f) sz) (va_pl x.2.2.2.1 x.2.2.2.2) t) (va_A (va_pl L f) sz)) 3 805 (va_A (va_pl L f) sz) := by
  refine Met.ofW (cc := cX11_contract) (maxL := 4) (ret := some .int) (by decide) rfl ?_
  intro p e s m args below meth c s₁ B hml hv
  obtain ⟨rfl, ⟨hsz, hP, hK, hD0, hN⟩, hZ⟩ := hv
  have hx := B.exec
  have hb := B.bytes
  have hr := B.returns
  have hts := fun (w : Cond) (h : w ∈ WALL) => atoms_spec (ws := wqX11_contract) B.pre w (List.mem_cons_of_mem _ h)
  have hown : s.vm.findClass RX11 = some m.cls := findClass_of_methodNamed B.named
  have hlocks := B.notSynchronized
  subst hsz
  have hD := hD0.self (sz := s.heap.size)
  generalize hAe : va_A (va_pl L f) s.heap.size = A at hD hZ ⊢
  have hA : ∀ q : Nat, s.heap.size ≤ q → A q := fun q h => by rw [← hAe]; exact Or.inr h
  have hS : va_S A s.heap s.heap [] := va_S.rf
  have hH : tp_H τ ν ρ L f [3, 11, 12, 20, 26, 28] none τ ν ρ L f := tp_H.rf
  have hG0 := hG
  have hX : tp_X τ ρ (fun n => n = 0) f f := tp_X.rf
  have hl := lv_entry ([.ref h0]) (n := 4) (Nat.le_of_ble_eq_true rfl)
  rw [lg_entry_eq]
  generalize (lg_sl ([.ref h0]) ++ List.replicate (4 - (lg_sl ([.ref h0])).length) Slot.unset).toArray = ls at hl ⊢
  have hl : lv_has ls 4 [(0, .ref h0)] := hl
  refine tgk_12 hG ht_h0 (fun y1 y1l y2 y3 y4 y5 y6 y7a y7b y7c => ?_)
  refine tgk_11 hG y1 (fun y8 y8n y9 y9n y10 y11 y12 y13 y13m y13l y14 y14m y14l y15 y15m y15l y16 y16w y16m y16l y17 y17w y17m y17l y18 y18w y18m y18l y19 y19w y19m y19l => ?_)
  refine tpk_11 hT y1 (fun o20_x0 o20_x1 o20_x2 o20_x3 o20_x4 o20_x5 o20_x6 hf_o20 ro20_0 ro20_1 ro20_2 ro20_3 => ?_)
  have ro20_0 := tp_hu ro20_0
  have tv21 : tp_fld (f (ρ h0 0)) 0 = o20_x0.toInt := by rw [hf_o20]; rfl
  have ro20_1 := tp_hu ro20_1
  have tv22 : tp_fld (f (ρ h0 0)) 4 = o20_x4.toInt := by rw [hf_o20]; rfl
  have ro20_2 := tp_hu ro20_2
  have tv23 : tp_fld (f (ρ h0 0)) 5 = o20_x5.toInt := by rw [hf_o20]; rfl
  have hρ0 : ρ h0 0 = ρ h0 0 := rfl
  refine lv_aload_n hx hb dX11_contract_0 rfl (lv_at hl 0 rfl) ?_
  refine tpk_12 hT ht_h0 (fun o24_x6 hf_o24 => ?_)
  refine tpk_pos (tp_in hG ht_h0 (by decide)) hf_o24 (fun q25 eq25 => ?_)
  refine va_get (D := (dC, dI)) (ci := 11) (v := .ref (ρ h0 0)) (C := RX11) (T := TX11) (N := 7) hx hb hts hfX11 hown hK hP q25 eq25 rfl 0 (by decide) (hts (.fieldLink RX11 10 "ColdShips" "world" "LColdShips$World;") wa_15) (fun _ h9 => h9) rfl dX11_contract_1 ?_
  refine tpk_pos (tp_in hG y1 (by decide)) hf_o20 (fun q26 eq26 => ?_)
  have ro20_3 := tp_hu ro20_3
  refine va_getN (D := (dC, dI)) (ci := 10) (v := .int o20_x6) (C := RX10) (T := TX10) (N := 19) hx hb hts hfX10 hown hK hP q26 eq26 rfl 6 (by decide) (va_Nw.use rfl (hN.1 (.fieldLinkNest RX11 261 "ColdShips$World" "contractCount" "I" "ColdShips") nzw_60)) (fun _ h9 => h9) rfl dX11_contract_4 ?_
  refine lv_bipush (v := 12) hx hb dX11_contract_7 (by decide) ?_
  refine lv_icmp_ge (tgt := 16) hx hb dX11_contract_9 (by decide) (fun c27 => ?_) (fun c27 => ?_)
  · have ic27 : o20_x6.toInt ≥ 12 := zi_ge rfl rfl c27
    refine lv_iconst (v := 0) hx hb dX11_contract_16 (by decide) ?_
    refine lv_istore_n (lv' := [(1, .int 0), (0, .ref h0)]) hx hb dX11_contract_17 rfl hl (by decide) rfl (fun ls hl => ?_)
    refine lv_iload_n hx hb dX11_contract_18 rfl (lv_at hl 0 rfl) ?_
    refine lv_if_eq (tgt := 32) hx hb dX11_contract_19 (by decide) (fun _ => ?_) (fun c9 => absurd c9 (by decide))
    refine lv_null hx hb dX11_contract_32 ?_
    refine lv_astore_nN (lv' := [(2, .null), (1, .int 0), (0, .ref h0)]) hx hb dX11_contract_33 rfl hl (by decide) rfl (fun ls hl => ?_)
    refine lv_aload_n hx hb dX11_contract_34 rfl (lv_at hl 2 rfl) ?_
    refine va_get (D := (dC, dI)) (ci := 11) (v := .ref (ρ h0 3)) (C := RX11) (T := TX11) (N := 7) hx hb hts hfX11 hown hK hP q25 eq25 rfl 3 (by decide) (hts (.fieldLink RX11 32 "ColdShips" "reader" "LColdShips$Reader;") wa_24) (fun _ h9 => h9) rfl dX11_contract_35 ?_
    refine tgk_3 hG y4 (fun y28 y28n y29 y29n y30 y30n => ?_)
    refine tpk_3 hT y4 (fun o31_x1 o31_x2 o31_x3 o31_x4 o31_x5 o31_x6 o31_x8 o31_x10 o31_x11 o31_x12 o31_x13 o31_x14 o31_x15 hf_o31 ro31_0 ro31_1 ro31_2 ro31_3 ro31_4 ro31_5 ro31_6 => ?_)
    refine tpk_pos (tp_in hG y4 (by decide)) hf_o31 (fun q32 eq32 => ?_)
    have hFc := tp_fr hD hS hA
    refine va_callv (va_runV (As := []) (rest := []) ⟨hx, hb, hml, hown, hts⟩ (t_X2_emptyTape l dC dI _ Ω κ τ ν ρ L f hG hT (ρ h0 3) y4) (cwV 0 hts gX11_contract_X2_emptyTape rfl rfl rfl ⟨rfl, pd_X2_emptyTape⟩ ⟨Nat.le_of_ble_eq_true rfl, Nat.le_of_ble_eq_true rfl⟩) ⟨pz_blind, va_recv hK hP (ci := 2) (q0 := q32) rfl eq32, pz_pre hP hK hD hN⟩ rfl rfl hl.1 rfl (lv_room (Nat.le_of_ble_eq_true rfl)) dX11_contract_38 ⟨Nat.le_of_ble_eq_true rfl, Nat.le_of_ble_eq_true rfl⟩) hS (fun q _ h => hFc q h) hFc (fun f35 t H1 locs ht hvm hw34 hB hz1 hk1 hS => ?_)
    refine tn_3 hw34 (fun hT hF36 hw34p => ?_); clear hw34
    have hHp := hH; have hH := hH.pool hF36 (by decide)
    have hX := hX.frH hG0 hHp hF36 (by decide)
    have hP := hB.1; rw [ht] at hP; have hD := tp_ad f35 hD; clear hB hFc hz1 hk1; subst ht; generalize t.heap = H at hP hS ⊢
    refine tpk_3 hT y4 (fun o37_x1 o37_x2 o37_x3 o37_x4 o37_x5 o37_x6 o37_x8 o37_x10 o37_x11 o37_x12 o37_x13 o37_x14 o37_x15 hf_o37 ro37_0 ro37_1 ro37_2 ro37_3 ro37_4 ro37_5 ro37_6 => ?_)
    have ro37_0 := tp_hu ro37_0
    have tv38 : tp_fld (f35 (ρ h0 3)) 1 = o37_x1.toInt := by rw [hf_o37]; rfl
    have pl39 : (o37_x1.toInt = 0) := by have q9 := hw34p; rw [tv38] at q9; exact q9
    refine lv_aload_nN hx hb dX11_contract_41 rfl (lv_at hl 0 rfl) ?_
    refine lv_ifnonnullN hx hb dX11_contract_42 ?_
    refine lv_aload_n hx hb dX11_contract_45 rfl (lv_at hl 2 rfl) ?_
    refine lv_iload_n hx hb dX11_contract_46 rfl (lv_at hl 1 rfl) ?_
    refine lv_if_eq (tgt := 55) hx hb dX11_contract_47 (by decide) (fun _ => ?_) (fun c9 => absurd c9 (by decide))
    refine lv_bipush (v := (-5)) hx hb dX11_contract_55 (by decide) ?_
    have hf_40 : f35 h0 = .inr (11, [.ref (ρ h0 0), .ref (ρ h0 1), .ref (ρ h0 2), .ref (ρ h0 3), .ref (ρ h0 4), .ref (ρ h0 5), .int o24_x6]) := (hF36 _ (by rw [ht_h0]; decide)).trans hf_o24
    refine tpk_pos (tp_in hG ht_h0 (by decide)) hf_40 (fun q41 eq41 => ?_)
    have hFc := tp_fr hD hS hA
    refine va_calli (va_runV (As := [.int (-5)]) (rest := []) ⟨hx, hb, hml, hown, hts⟩ (t_X11_refuse l dC dI _ Ω κ τ ν ρ L f35 hG hT h0 ((-5)) ht_h0) (cwV 1 hts gX11_contract_X11_refuse rfl rfl rfl ⟨rfl, pd_X11_refuse⟩ ⟨Nat.le_of_ble_eq_true rfl, Nat.le_of_ble_eq_true rfl⟩) ⟨pz_blind, va_recv hK hP (ci := 11) (q0 := q41) rfl eq41, pz_pre hP hK hD hN⟩ rfl rfl hl.1 rfl (lv_room (Nat.le_of_ble_eq_true rfl)) dX11_contract_57 ⟨Nat.le_of_ble_eq_true rfl, Nat.le_of_ble_eq_true rfl⟩) hS (fun q _ h => hFc q h) hFc (fun r42 f44 t H1 locs ht hvm hw43 hB hz1 hk1 hS => ?_)
    refine tn_4 hw43 (fun hT hF45 hw43r hw43p => ?_); clear hw43
    have hHp := hH; have hH := hH.pool hF45 (by decide)
    have hX := hX.frH hG0 hHp hF45 (by decide)
    have hP := hB.1; rw [ht] at hP; have hD := tp_ad f44 hD; clear hB hFc hz1 hk1; subst ht; generalize t.heap = H at hP hS ⊢
    have hw43pq : r42.toInt = (-5) := by rw [hw43p]; rfl
    have hf_46 : f35 (ρ h0 0) = .inr (10, [.int o20_x0, .int o20_x1, .int o20_x2, .int o20_x3, .int o20_x4, .int o20_x5, .int o20_x6, .ref (ρ (ρ h0 0) 7), .ref (ρ (ρ h0 0) 8), .ref (ρ (ρ h0 0) 9), .ref (ρ (ρ h0 0) 10), .ref (ρ (ρ h0 0) 11), .ref (ρ (ρ h0 0) 12), .ref (ρ (ρ h0 0) 13), .ref (ρ (ρ h0 0) 14), .ref (ρ (ρ h0 0) 15), .ref (ρ (ρ h0 0) 16), .ref (ρ (ρ h0 0) 17), .ref (ρ (ρ h0 0) 18)]) := (hF36 _ (by rw [tp_iu y1]; decide)).trans hf_o20
    have hf_47 : f44 (ρ h0 0) = .inr (10, [.int o20_x0, .int o20_x1, .int o20_x2, .int o20_x3, .int o20_x4, .int o20_x5, .int o20_x6, .ref (ρ (ρ h0 0) 7), .ref (ρ (ρ h0 0) 8), .ref (ρ (ρ h0 0) 9), .ref (ρ (ρ h0 0) 10), .ref (ρ (ρ h0 0) 11), .ref (ρ (ρ h0 0) 12), .ref (ρ (ρ h0 0) 13), .ref (ρ (ρ h0 0) 14), .ref (ρ (ρ h0 0) 15), .ref (ρ (ρ h0 0) 16), .ref (ρ (ρ h0 0) 17), .ref (ρ (ρ h0 0) 18)]) := (hF45 _ (by rw [tp_iu y1]; decide)).trans hf_46
    have tv48 : tp_fld (f44 (ρ h0 0)) 0 = o20_x0.toInt := by rw [hf_47]; rfl
    have tv49 : tp_fld (f44 (ρ h0 0)) 4 = o20_x4.toInt := by rw [hf_47]; rfl
    have tv50 : tp_fld (f44 (ρ h0 0)) 5 = o20_x5.toInt := by rw [hf_47]; rfl
    have hf_51 : f44 (ρ h0 3) = .inr (2, [.ref (ρ (ρ h0 3) 0), .int o37_x1, .int o37_x2, .int o37_x3, .int o37_x4, .int o37_x5, .int o37_x6, .ref (ρ (ρ h0 3) 7), .int o37_x8, .ref (ρ (ρ h0 3) 9), .int o37_x10, .int o37_x11, .int o37_x12, .int o37_x13, .int o37_x14, .int o37_x15]) := (hF45 _ (by rw [tp_iu y4]; decide)).trans hf_o37
    have tv52 : tp_fld (f44 (ρ h0 3)) 1 = o37_x1.toInt := by rw [hf_51]; rfl
    refine tp_widen 3 805 (Nat.le_of_ble_eq_true rfl) (Nat.le_of_ble_eq_true rfl) ?_
    exact W.iret (v := r42) hx hb hr (fun t ht hW => ⟨⟨r42, (τ, ν, ρ, L, f44), rfl, ⟨⟨hG, hT, hH⟩, ⟨hX, by show tp_fld (f44 (ρ h0 0)) 0 = tp_fld (f (ρ h0 0)) 0 ∧ tp_fld (f44 (ρ h0 0)) 4 = tp_fld (f (ρ h0 0)) 4 ∧ tp_fld (f44 (ρ h0 0)) 5 = tp_fld (f (ρ h0 0)) 5 ∧ tp_fld (f44 (ρ h0 3)) 1 = 0; rw [tv48, tv49, tv50, tv52, tv21, tv22, tv23]; exact ⟨by omega, by omega, by omega, by omega⟩⟩⟩, by rw [ht]; exact hP, va_K.moved hW.alike hK, hD⟩, hS.F ht⟩) hS.2.2 dX11_contract_60
  · have ic27 : o20_x6.toInt < 12 := zi_gef rfl rfl c27
    refine lv_iconst (v := 1) hx hb dX11_contract_12 (by decide) ?_
    refine lv_goto (tgt := 17) hx hb dX11_contract_13 (by decide) ?_
    refine lv_istore_n (lv' := [(1, .int 1), (0, .ref h0)]) hx hb dX11_contract_17 rfl hl (by decide) rfl (fun ls hl => ?_)
    refine lv_iload_n hx hb dX11_contract_18 rfl (lv_at hl 0 rfl) ?_
    refine lv_if_eq (tgt := 32) hx hb dX11_contract_19 (by decide) (fun c9 => absurd c9 (by decide)) (fun _ => ?_)
    refine lv_aload_n hx hb dX11_contract_22 rfl (lv_at hl 1 rfl) ?_
    refine va_get (D := (dC, dI)) (ci := 11) (v := .ref (ρ h0 3)) (C := RX11) (T := TX11) (N := 7) hx hb hts hfX11 hown hK hP q25 eq25 rfl 3 (by decide) (hts (.fieldLink RX11 32 "ColdShips" "reader" "LColdShips$Reader;") wa_24) (fun _ h9 => h9) rfl dX11_contract_23 ?_
    obtain ⟨b53, eb53⟩ : ∃ b : Nat, b = (ρ h0 3) := ⟨_, rfl⟩
    have tb53 : τ b53 = 3 := by rw [eb53]; exact y4
    rw [← eb53]
    refine tgk_3 hG tb53 (fun y54 y54n y55 y55n y56 y56n => ?_)
    refine tpk_3 hT tb53 (fun o57_x1 o57_x2 o57_x3 o57_x4 o57_x5 o57_x6 o57_x8 o57_x10 o57_x11 o57_x12 o57_x13 o57_x14 o57_x15 hf_o57 ro57_0 ro57_1 ro57_2 ro57_3 ro57_4 ro57_5 ro57_6 => ?_)
    refine tpk_pos (tp_in hG tb53 (by decide)) hf_o57 (fun q58 eq58 => ?_)
    have hFc := tp_fr hD hS hA
    refine va_callq (va_runV (As := []) (rest := []) ⟨hx, hb, hml, hown, hts⟩ (t_X2_readTape l dC dI _ Ω κ τ ν ρ L f hG hT adK adV zv b53 tb53) (cwV 0 hts gX11_contract_X2_readTape rfl rfl rfl ⟨rfl, pd_X2_readTape⟩ ⟨Nat.le_of_ble_eq_true rfl, Nat.le_of_ble_eq_true rfl⟩) ⟨pw_blindZ, va_recv hK hP (ci := 2) (q0 := q58) rfl eq58, pw_preZ hP hK hD hN hZ hS (tp_fr hD hS hA)⟩ rfl rfl hl.1 rfl (lv_room (Nat.le_of_ble_eq_true rfl)) dX11_contract_26 ⟨Nat.le_of_ble_eq_true rfl, Nat.le_of_ble_eq_true rfl⟩) hS (fun q _ h => hFc q h) hFc (fun r60 x59 t H1 locs ht hvm hw61 hB hz1 hk1 hS => ?_)
    obtain ⟨τ_63, ν_63, ρ_63, L_63, f62⟩ := x59
    obtain ⟨⟨hG9, hT9, hH9⟩, hw61p⟩ := hw61
    have hX := hX.cl hG0 hH hH9 (by decide) (fun a ha z => by cases z)
    have hc64 := hH9.2 _ (tp_in hG ht_h0 (by decide)) (fun z => by cases z)
    have hc65 := hH9.2 _ (tp_in hG tb53 (by decide)) (fun z => by cases z)
    have hw9 : ρ_63 h0 0 = ρ h0 0 := congrFun hc64.2.2.1 0
    have cw0 : tp_fld (f62 (ρ_63 h0 0)) 0 = o20_x0.toInt := by rw [hw9, (show f62 (ρ h0 0) = f (ρ h0 0) from (hH9.2 _ (tp_in hG y1 (by decide)) (fun z => by cases z)).2.2.2 (by rw [y1]; decide)), hf_o20]; rfl
    have cw4 : tp_fld (f62 (ρ_63 h0 0)) 4 = o20_x4.toInt := by rw [hw9, (show f62 (ρ h0 0) = f (ρ h0 0) from (hH9.2 _ (tp_in hG y1 (by decide)) (fun z => by cases z)).2.2.2 (by rw [y1]; decide)), hf_o20]; rfl
    have cw5 : tp_fld (f62 (ρ_63 h0 0)) 5 = o20_x5.toInt := by rw [hw9, (show f62 (ρ h0 0) = f (ρ h0 0) from (hH9.2 _ (tp_in hG y1 (by decide)) (fun z => by cases z)).2.2.2 (by rw [y1]; decide)), hf_o20]; rfl
    have cw6 : tp_fld (f62 (ρ_63 h0 0)) 6 = o20_x6.toInt := by rw [hw9, (show f62 (ρ h0 0) = f (ρ h0 0) from (hH9.2 _ (tp_in hG y1 (by decide)) (fun z => by cases z)).2.2.2 (by rw [y1]; decide)), hf_o20]; rfl
    have hH := hH.call hH9 (by decide) (fun a _ _ z => by cases z)
    have hG : tp_G τ_63 ν_63 ρ_63 L_63 := hG9; have hT : tp_T Ω κ τ_63 ν_63 ρ_63 f62 := hT9
    have hH : tp_H τ ν ρ L f [3, 11, 12, 20, 26, 28] none τ_63 ν_63 ρ_63 L_63 f62 := hH
    have hP := hB.1; rw [ht] at hP; have hD := tp_Dw hB.2.2 hFc; clear hB hFc hz1 hk1; subst ht; generalize t.heap = H at hP hS ⊢
    have hP : va_P (dC, dI) vwCl (va_pl L_63 f62) H := hP
    have hD : va_D A (va_pl L_63 f62) := hD
    have ht66 : τ_63 h0 = 12 := hc64.1.trans ht_h0
    have ht67 : τ_63 b53 = 3 := hc65.1.trans tb53
    clear ht_h0 tb53 hc64 hc65 hG9 hT9 hH9
    rcases hw61p with h69 | ⟨b68, h69, h69t⟩
    · rw [h69]
      show W _ _ _ _ _ _ _ _ _ _ _ _ _ _ _ (F0 m 29 ls (.null :: []))
      refine tgk_12 hG ht66 (fun y70 y70l y71 y72 y73 y74 y75 y76a y76b y76c => ?_)
      refine tgk_11 hG y70 (fun y77 y77n y78 y78n y79 y80 y81 y82 y82m y82l y83 y83m y83l y84 y84m y84l y85 y85w y85m y85l y86 y86w y86m y86l y87 y87w y87m y87l y88 y88w y88m y88l => ?_)
      refine tpk_11 hT y70 (fun o89_x0 o89_x1 o89_x2 o89_x3 o89_x4 o89_x5 o89_x6 hf_o89 ro89_0 ro89_1 ro89_2 ro89_3 => ?_)
      have ro89_0 := tp_hu ro89_0
      have cv0 : o89_x0.toInt = o20_x0.toInt := by have q9 := cw0; rw [hf_o89] at q9; exact q9
      have ro89_1 := tp_hu ro89_1
      have cv4 : o89_x4.toInt = o20_x4.toInt := by have q9 := cw4; rw [hf_o89] at q9; exact q9
      have ro89_2 := tp_hu ro89_2
      have cv5 : o89_x5.toInt = o20_x5.toInt := by have q9 := cw5; rw [hf_o89] at q9; exact q9
      have ro89_3 := tp_hu ro89_3
      have cv6 : o89_x6.toInt = o20_x6.toInt := by have q9 := cw6; rw [hf_o89] at q9; exact q9
      refine lv_goto (tgt := 33) hx hb dX11_contract_29 (by decide) ?_
      refine lv_astore_nN (lv' := [(2, .null), (1, .int 1), (0, .ref h0)]) hx hb dX11_contract_33 rfl hl (by decide) rfl (fun ls hl => ?_)
      refine lv_aload_n hx hb dX11_contract_34 rfl (lv_at hl 2 rfl) ?_
      refine tpk_12 hT ht66 (fun o90_x6 hf_o90 => ?_)
      refine tpk_pos (tp_in hG ht66 (by decide)) hf_o90 (fun q91 eq91 => ?_)
      refine va_get (D := (dC, dI)) (ci := 11) (v := .ref (ρ_63 h0 3)) (C := RX11) (T := TX11) (N := 7) hx hb hts hfX11 hown hK hP q91 eq91 rfl 3 (by decide) (hts (.fieldLink RX11 32 "ColdShips" "reader" "LColdShips$Reader;") wa_24) (fun _ h9 => h9) rfl dX11_contract_35 ?_
      refine tgk_3 hG y73 (fun y92 y92n y93 y93n y94 y94n => ?_)
      refine tpk_3 hT y73 (fun o95_x1 o95_x2 o95_x3 o95_x4 o95_x5 o95_x6 o95_x8 o95_x10 o95_x11 o95_x12 o95_x13 o95_x14 o95_x15 hf_o95 ro95_0 ro95_1 ro95_2 ro95_3 ro95_4 ro95_5 ro95_6 => ?_)
      refine tpk_pos (tp_in hG y73 (by decide)) hf_o95 (fun q96 eq96 => ?_)
      have hFc := tp_fr hD hS hA
      refine va_callv (va_runV (As := []) (rest := []) ⟨hx, hb, hml, hown, hts⟩ (t_X2_emptyTape l dC dI _ Ω κ τ_63 ν_63 ρ_63 L_63 f62 hG hT (ρ_63 h0 3) y73) (cwV 0 hts gX11_contract_X2_emptyTape rfl rfl rfl ⟨rfl, pd_X2_emptyTape⟩ ⟨Nat.le_of_ble_eq_true rfl, Nat.le_of_ble_eq_true rfl⟩) ⟨pz_blind, va_recv hK hP (ci := 2) (q0 := q96) rfl eq96, pz_pre hP hK hD hN⟩ rfl rfl hl.1 rfl (lv_room (Nat.le_of_ble_eq_true rfl)) dX11_contract_38 ⟨Nat.le_of_ble_eq_true rfl, Nat.le_of_ble_eq_true rfl⟩) hS (fun q _ h => hFc q h) hFc (fun f99 t H1 locs ht hvm hw98 hB hz1 hk1 hS => ?_)
      refine tn_3 hw98 (fun hT hF100 hw98p => ?_); clear hw98
      have hHp := hH; have hH := hH.pool hF100 (by decide)
      have hX := hX.frH hG0 hHp hF100 (by decide)
      have hP := hB.1; rw [ht] at hP; have hD := tp_ad f99 hD; clear hB hFc hz1 hk1; subst ht; generalize t.heap = H at hP hS ⊢
      refine tpk_3 hT y73 (fun o101_x1 o101_x2 o101_x3 o101_x4 o101_x5 o101_x6 o101_x8 o101_x10 o101_x11 o101_x12 o101_x13 o101_x14 o101_x15 hf_o101 ro101_0 ro101_1 ro101_2 ro101_3 ro101_4 ro101_5 ro101_6 => ?_)
      have ro101_0 := tp_hu ro101_0
      have tv102 : tp_fld (f99 (ρ_63 h0 3)) 1 = o101_x1.toInt := by rw [hf_o101]; rfl
      have pl103 : (o101_x1.toInt = 0) := by have q9 := hw98p; rw [tv102] at q9; exact q9
      refine lv_aload_nN hx hb dX11_contract_41 rfl (lv_at hl 0 rfl) ?_
      refine lv_ifnonnullN hx hb dX11_contract_42 ?_
      refine lv_aload_n hx hb dX11_contract_45 rfl (lv_at hl 2 rfl) ?_
      refine lv_iload_n hx hb dX11_contract_46 rfl (lv_at hl 1 rfl) ?_
      refine lv_if_eq (tgt := 55) hx hb dX11_contract_47 (by decide) (fun c9 => absurd c9 (by decide)) (fun _ => ?_)
      refine lv_bipush (v := (-6)) hx hb dX11_contract_50 (by decide) ?_
      refine lv_goto (tgt := 57) hx hb dX11_contract_52 (by decide) ?_
      have hf_104 : f99 h0 = .inr (11, [.ref (ρ_63 h0 0), .ref (ρ_63 h0 1), .ref (ρ_63 h0 2), .ref (ρ_63 h0 3), .ref (ρ_63 h0 4), .ref (ρ_63 h0 5), .int o90_x6]) := (hF100 _ (by rw [ht66]; decide)).trans hf_o90
      refine tpk_pos (tp_in hG ht66 (by decide)) hf_104 (fun q105 eq105 => ?_)
      have hFc := tp_fr hD hS hA
      refine va_calli (va_runV (As := [.int (-6)]) (rest := []) ⟨hx, hb, hml, hown, hts⟩ (t_X11_refuse l dC dI _ Ω κ τ_63 ν_63 ρ_63 L_63 f99 hG hT h0 ((-6)) ht66) (cwV 1 hts gX11_contract_X11_refuse rfl rfl rfl ⟨rfl, pd_X11_refuse⟩ ⟨Nat.le_of_ble_eq_true rfl, Nat.le_of_ble_eq_true rfl⟩) ⟨pz_blind, va_recv hK hP (ci := 11) (q0 := q105) rfl eq105, pz_pre hP hK hD hN⟩ rfl rfl hl.1 rfl (lv_room (Nat.le_of_ble_eq_true rfl)) dX11_contract_57 ⟨Nat.le_of_ble_eq_true rfl, Nat.le_of_ble_eq_true rfl⟩) hS (fun q _ h => hFc q h) hFc (fun r106 f108 t H1 locs ht hvm hw107 hB hz1 hk1 hS => ?_)
      refine tn_4 hw107 (fun hT hF109 hw107r hw107p => ?_); clear hw107
      have hHp := hH; have hH := hH.pool hF109 (by decide)
      have hX := hX.frH hG0 hHp hF109 (by decide)
      have hP := hB.1; rw [ht] at hP; have hD := tp_ad f108 hD; clear hB hFc hz1 hk1; subst ht; generalize t.heap = H at hP hS ⊢
      have hw107pq : r106.toInt = (-6) := by rw [hw107p]; rfl
      have hf_110 : f99 (ρ_63 h0 0) = .inr (10, [.int o89_x0, .int o89_x1, .int o89_x2, .int o89_x3, .int o89_x4, .int o89_x5, .int o89_x6, .ref (ρ_63 (ρ_63 h0 0) 7), .ref (ρ_63 (ρ_63 h0 0) 8), .ref (ρ_63 (ρ_63 h0 0) 9), .ref (ρ_63 (ρ_63 h0 0) 10), .ref (ρ_63 (ρ_63 h0 0) 11), .ref (ρ_63 (ρ_63 h0 0) 12), .ref (ρ_63 (ρ_63 h0 0) 13), .ref (ρ_63 (ρ_63 h0 0) 14), .ref (ρ_63 (ρ_63 h0 0) 15), .ref (ρ_63 (ρ_63 h0 0) 16), .ref (ρ_63 (ρ_63 h0 0) 17), .ref (ρ_63 (ρ_63 h0 0) 18)]) := (hF100 _ (by rw [tp_iu y70]; decide)).trans hf_o89
      have hf_111 : f108 (ρ_63 h0 0) = .inr (10, [.int o89_x0, .int o89_x1, .int o89_x2, .int o89_x3, .int o89_x4, .int o89_x5, .int o89_x6, .ref (ρ_63 (ρ_63 h0 0) 7), .ref (ρ_63 (ρ_63 h0 0) 8), .ref (ρ_63 (ρ_63 h0 0) 9), .ref (ρ_63 (ρ_63 h0 0) 10), .ref (ρ_63 (ρ_63 h0 0) 11), .ref (ρ_63 (ρ_63 h0 0) 12), .ref (ρ_63 (ρ_63 h0 0) 13), .ref (ρ_63 (ρ_63 h0 0) 14), .ref (ρ_63 (ρ_63 h0 0) 15), .ref (ρ_63 (ρ_63 h0 0) 16), .ref (ρ_63 (ρ_63 h0 0) 17), .ref (ρ_63 (ρ_63 h0 0) 18)]) := (hF109 _ (by rw [tp_iu y70]; decide)).trans hf_110
      have tv112 : tp_fld (f108 (ρ_63 h0 0)) 0 = o89_x0.toInt := by rw [hf_111]; rfl
      have tv113 : tp_fld (f108 (ρ_63 h0 0)) 4 = o89_x4.toInt := by rw [hf_111]; rfl
      have tv114 : tp_fld (f108 (ρ_63 h0 0)) 5 = o89_x5.toInt := by rw [hf_111]; rfl
      have hf_115 : f108 (ρ_63 h0 3) = .inr (2, [.ref (ρ_63 (ρ_63 h0 3) 0), .int o101_x1, .int o101_x2, .int o101_x3, .int o101_x4, .int o101_x5, .int o101_x6, .ref (ρ_63 (ρ_63 h0 3) 7), .int o101_x8, .ref (ρ_63 (ρ_63 h0 3) 9), .int o101_x10, .int o101_x11, .int o101_x12, .int o101_x13, .int o101_x14, .int o101_x15]) := (hF109 _ (by rw [tp_iu y73]; decide)).trans hf_o101
      have tv116 : tp_fld (f108 (ρ_63 h0 3)) 1 = o101_x1.toInt := by rw [hf_115]; rfl
      refine tp_widen 3 805 (Nat.le_of_ble_eq_true rfl) (Nat.le_of_ble_eq_true rfl) ?_
      exact W.iret (v := r106) hx hb hr (fun t ht hW => ⟨⟨r106, (τ_63, ν_63, ρ_63, L_63, f108), rfl, ⟨⟨hG, hT, hH⟩, ⟨hX, by show tp_fld (f108 (ρ_63 h0 0)) 0 = tp_fld (f (ρ h0 0)) 0 ∧ tp_fld (f108 (ρ_63 h0 0)) 4 = tp_fld (f (ρ h0 0)) 4 ∧ tp_fld (f108 (ρ_63 h0 0)) 5 = tp_fld (f (ρ h0 0)) 5 ∧ tp_fld (f108 (ρ_63 h0 3)) 1 = 0; rw [tv112, tv113, tv114, tv116, tv21, tv22, tv23]; exact ⟨by omega, by omega, by omega, by omega⟩⟩⟩, by rw [ht]; exact hP, va_K.moved hW.alike hK, hD⟩, hS.F ht⟩) hS.2.2 dX11_contract_60
    · rw [h69]
      show W _ _ _ _ _ _ _ _ _ _ _ _ _ _ _ (F0 m 29 ls (.ref b68 :: []))
      have h69t : τ_63 b68 = 1 := h69t
      refine tgk_12 hG ht66 (fun y117 y117l y118 y119 y120 y121 y122 y123a y123b y123c => ?_)
      refine tgk_11 hG y117 (fun y124 y124n y125 y125n y126 y127 y128 y129 y129m y129l y130 y130m y130l y131 y131m y131l y132 y132w y132m y132l y133 y133w y133m y133l y134 y134w y134m y134l y135 y135w y135m y135l => ?_)
      refine tpk_11 hT y117 (fun o136_x0 o136_x1 o136_x2 o136_x3 o136_x4 o136_x5 o136_x6 hf_o136 ro136_0 ro136_1 ro136_2 ro136_3 => ?_)
      have ro136_0 := tp_hu ro136_0
      have cv0 : o136_x0.toInt = o20_x0.toInt := by have q9 := cw0; rw [hf_o136] at q9; exact q9
      have ro136_1 := tp_hu ro136_1
      have cv4 : o136_x4.toInt = o20_x4.toInt := by have q9 := cw4; rw [hf_o136] at q9; exact q9
      have ro136_2 := tp_hu ro136_2
      have cv5 : o136_x5.toInt = o20_x5.toInt := by have q9 := cw5; rw [hf_o136] at q9; exact q9
      have ro136_3 := tp_hu ro136_3
      have cv6 : o136_x6.toInt = o20_x6.toInt := by have q9 := cw6; rw [hf_o136] at q9; exact q9
      refine lv_goto (tgt := 33) hx hb dX11_contract_29 (by decide) ?_
      refine lv_astore_n (lv' := [(2, .ref b68), (1, .int 1), (0, .ref h0)]) hx hb dX11_contract_33 rfl hl (by decide) rfl (fun ls hl => ?_)
      refine lv_aload_n hx hb dX11_contract_34 rfl (lv_at hl 2 rfl) ?_
      refine tpk_12 hT ht66 (fun o137_x6 hf_o137 => ?_)
      refine tpk_pos (tp_in hG ht66 (by decide)) hf_o137 (fun q138 eq138 => ?_)
      refine va_get (D := (dC, dI)) (ci := 11) (v := .ref (ρ_63 h0 3)) (C := RX11) (T := TX11) (N := 7) hx hb hts hfX11 hown hK hP q138 eq138 rfl 3 (by decide) (hts (.fieldLink RX11 32 "ColdShips" "reader" "LColdShips$Reader;") wa_24) (fun _ h9 => h9) rfl dX11_contract_35 ?_
      refine tgk_3 hG y120 (fun y139 y139n y140 y140n y141 y141n => ?_)
      refine tpk_3 hT y120 (fun o142_x1 o142_x2 o142_x3 o142_x4 o142_x5 o142_x6 o142_x8 o142_x10 o142_x11 o142_x12 o142_x13 o142_x14 o142_x15 hf_o142 ro142_0 ro142_1 ro142_2 ro142_3 ro142_4 ro142_5 ro142_6 => ?_)
      refine tpk_pos (tp_in hG y120 (by decide)) hf_o142 (fun q143 eq143 => ?_)
      have hFc := tp_fr hD hS hA
      refine va_callv (va_runV (As := []) (rest := []) ⟨hx, hb, hml, hown, hts⟩ (t_X2_emptyTape l dC dI _ Ω κ τ_63 ν_63 ρ_63 L_63 f62 hG hT (ρ_63 h0 3) y120) (cwV 0 hts gX11_contract_X2_emptyTape rfl rfl rfl ⟨rfl, pd_X2_emptyTape⟩ ⟨Nat.le_of_ble_eq_true rfl, Nat.le_of_ble_eq_true rfl⟩) ⟨pz_blind, va_recv hK hP (ci := 2) (q0 := q143) rfl eq143, pz_pre hP hK hD hN⟩ rfl rfl hl.1 rfl (lv_room (Nat.le_of_ble_eq_true rfl)) dX11_contract_38 ⟨Nat.le_of_ble_eq_true rfl, Nat.le_of_ble_eq_true rfl⟩) hS (fun q _ h => hFc q h) hFc (fun f146 t H1 locs ht hvm hw145 hB hz1 hk1 hS => ?_)
      refine tn_3 hw145 (fun hT hF147 hw145p => ?_); clear hw145
      have hHp := hH; have hH := hH.pool hF147 (by decide)
      have hX := hX.frH hG0 hHp hF147 (by decide)
      have hP := hB.1; rw [ht] at hP; have hD := tp_ad f146 hD; clear hB hFc hz1 hk1; subst ht; generalize t.heap = H at hP hS ⊢
      refine tpk_3 hT y120 (fun o148_x1 o148_x2 o148_x3 o148_x4 o148_x5 o148_x6 o148_x8 o148_x10 o148_x11 o148_x12 o148_x13 o148_x14 o148_x15 hf_o148 ro148_0 ro148_1 ro148_2 ro148_3 ro148_4 ro148_5 ro148_6 => ?_)
      have ro148_0 := tp_hu ro148_0
      have tv149 : tp_fld (f146 (ρ_63 h0 3)) 1 = o148_x1.toInt := by rw [hf_o148]; rfl
      have pl150 : (o148_x1.toInt = 0) := by have q9 := hw145p; rw [tv149] at q9; exact q9
      refine lv_aload_n hx hb dX11_contract_41 rfl (lv_at hl 0 rfl) ?_
      refine lv_ifnonnull (tgt := 61) hx hb dX11_contract_42 (by decide) ?_
      refine lv_aload_n hx hb dX11_contract_61 rfl (lv_at hl 2 rfl) ?_
      have hf_151 : f146 h0 = .inr (11, [.ref (ρ_63 h0 0), .ref (ρ_63 h0 1), .ref (ρ_63 h0 2), .ref (ρ_63 h0 3), .ref (ρ_63 h0 4), .ref (ρ_63 h0 5), .int o137_x6]) := (hF147 _ (by rw [ht66]; decide)).trans hf_o137
      refine tpk_pos (tp_in hG ht66 (by decide)) hf_151 (fun q152 eq152 => ?_)
      refine va_get (D := (dC, dI)) (ci := 11) (v := .ref (ρ_63 h0 0)) (C := RX11) (T := TX11) (N := 7) hx hb hts hfX11 hown hK hP q152 eq152 rfl 0 (by decide) (hts (.fieldLink RX11 10 "ColdShips" "world" "LColdShips$World;") wa_15) (fun _ h9 => h9) rfl dX11_contract_62 ?_
      have hf_153 : f146 (ρ_63 h0 0) = .inr (10, [.int o136_x0, .int o136_x1, .int o136_x2, .int o136_x3, .int o136_x4, .int o136_x5, .int o136_x6, .ref (ρ_63 (ρ_63 h0 0) 7), .ref (ρ_63 (ρ_63 h0 0) 8), .ref (ρ_63 (ρ_63 h0 0) 9), .ref (ρ_63 (ρ_63 h0 0) 10), .ref (ρ_63 (ρ_63 h0 0) 11), .ref (ρ_63 (ρ_63 h0 0) 12), .ref (ρ_63 (ρ_63 h0 0) 13), .ref (ρ_63 (ρ_63 h0 0) 14), .ref (ρ_63 (ρ_63 h0 0) 15), .ref (ρ_63 (ρ_63 h0 0) 16), .ref (ρ_63 (ρ_63 h0 0) 17), .ref (ρ_63 (ρ_63 h0 0) 18)]) := (hF147 _ (by rw [tp_iu y117]; decide)).trans hf_o136
      refine tpk_pos (tp_in hG y117 (by decide)) hf_153 (fun q154 eq154 => ?_)
      refine va_getN (D := (dC, dI)) (ci := 10) (v := .int o136_x6) (C := RX10) (T := TX10) (N := 19) hx hb hts hfX10 hown hK hP q154 eq154 rfl 6 (by decide) (va_Nw.use rfl (hN.1 (.fieldLinkNest RX11 261 "ColdShips$World" "contractCount" "I" "ColdShips") nzw_60)) (fun _ h9 => h9) rfl dX11_contract_65 ?_
      refine lv_istore_n (lv' := [(3, .int o136_x6), (2, .ref b68), (1, .int 1), (0, .ref h0)]) hx hb dX11_contract_68 rfl hl (by decide) rfl (fun ls hl => ?_)
      refine lv_aload_n hx hb dX11_contract_69 rfl (lv_at hl 3 rfl) ?_
      refine va_get (D := (dC, dI)) (ci := 11) (v := .ref (ρ_63 h0 0)) (C := RX11) (T := TX11) (N := 7) hx hb hts hfX11 hown hK hP q152 eq152 rfl 0 (by decide) (hts (.fieldLink RX11 10 "ColdShips" "world" "LColdShips$World;") wa_15) (fun _ h9 => h9) rfl dX11_contract_70 ?_
      refine va_getN (D := (dC, dI)) (ci := 10) (v := .ref (ρ_63 (ρ_63 h0 0) 11)) (C := RX10) (T := TX10) (N := 19) hx hb hts hfX10 hown hK hP q154 eq154 rfl 11 (by decide) (va_Nw.use rfl (hN.1 (.fieldLinkNest RX11 271 "ColdShips$World" "contracts" "[LColdShips$Contract;" "ColdShips") nzw_72)) (fun _ h9 => h9) rfl dX11_contract_73 ?_
      refine lv_iload_n hx hb dX11_contract_76 rfl (lv_at hl 0 rfl) ?_
      refine lv_aload_n hx hb dX11_contract_77 rfl (lv_at hl 1 rfl) ?_
      refine tpk_26 hT y128 (fun g156 hf_o155 hf_o155e => ?_)
      refine tpk_pos (tp_in hG y128 (by decide)) hf_o155 (fun q157 eq157 => ?_)
      refine tgk_1 hG h69t (fun y161 y161n y162 y162n => ?_)
      refine tpk_1 hT h69t (fun o163_x2 o163_x3 o163_x4 hf_o163 => ?_)
      refine tpk_pos (tp_in hG h69t (by decide)) hf_o163 (fun q164 eq164 => ?_)
      refine va_astq hx hb hK hP hD hS q157 6 q164 0 eq157 rfl eq164 rfl (vp_in_iff.mpr ⟨by omega, by omega⟩) dX11_contract_78 (tp_k (.inl (κ 6, 12, .inr (.inr (.inr (.inr (va_up g156 o136_x6.toNatClampNeg (some b68))))))) hD (tp_in hG y128 (by decide)) eq157 (fun f158 H locs hP hD hS g160 k159 => ?_))
      have hT := hT.up y128 g160 k159 ⟨_, rfl, (tp_nu hf_o155e _ h69t)⟩
      have hX := hX.wt hG0 hH k159 (Or.inl (by rw [tp_iu y128]; decide))
      have hH := hH.wt y128 (by decide) k159
      refine lv_aload_n hx hb dX11_contract_79 rfl (lv_at hl 3 rfl) ?_
      have hf_165 : f158 h0 = .inr (11, [.ref (ρ_63 h0 0), .ref (ρ_63 h0 1), .ref (ρ_63 h0 2), .ref (ρ_63 h0 3), .ref (ρ_63 h0 4), .ref (ρ_63 h0 5), .int o137_x6]) := (k159 _ (tp_ne ht66 y128 (by decide))).trans hf_151
      refine tpk_pos (tp_in hG ht66 (by decide)) hf_165 (fun q166 eq166 => ?_)
      refine va_get (D := (dC, dI)) (ci := 11) (v := .ref (ρ_63 h0 0)) (C := RX11) (T := TX11) (N := 7) hx hb hts hfX11 hown hK hP q166 eq166 rfl 0 (by decide) (hts (.fieldLink RX11 10 "ColdShips" "world" "LColdShips$World;") wa_15) (fun _ h9 => h9) rfl dX11_contract_80 ?_
      refine lv_dup hx hb dX11_contract_83 rfl ?_
      have hf_167 : f158 (ρ_63 h0 0) = .inr (10, [.int o136_x0, .int o136_x1, .int o136_x2, .int o136_x3, .int o136_x4, .int o136_x5, .int o136_x6, .ref (ρ_63 (ρ_63 h0 0) 7), .ref (ρ_63 (ρ_63 h0 0) 8), .ref (ρ_63 (ρ_63 h0 0) 9), .ref (ρ_63 (ρ_63 h0 0) 10), .ref (ρ_63 (ρ_63 h0 0) 11), .ref (ρ_63 (ρ_63 h0 0) 12), .ref (ρ_63 (ρ_63 h0 0) 13), .ref (ρ_63 (ρ_63 h0 0) 14), .ref (ρ_63 (ρ_63 h0 0) 15), .ref (ρ_63 (ρ_63 h0 0) 16), .ref (ρ_63 (ρ_63 h0 0) 17), .ref (ρ_63 (ρ_63 h0 0) 18)]) := (k159 _ (tp_ne y117 y128 (by decide))).trans hf_153
      refine tpk_pos (tp_in hG y117 (by decide)) hf_167 (fun q168 eq168 => ?_)
      refine va_getN (D := (dC, dI)) (ci := 10) (v := .int o136_x6) (C := RX10) (T := TX10) (N := 19) hx hb hts hfX10 hown hK hP q168 eq168 rfl 6 (by decide) (va_Nw.use rfl (hN.1 (.fieldLinkNest RX11 261 "ColdShips$World" "contractCount" "I" "ColdShips") nzw_60)) (fun _ h9 => h9) rfl dX11_contract_84 ?_
      refine lv_iconst (v := 1) hx hb dX11_contract_87 (by decide) ?_
      refine lv_iadd hx hb dX11_contract_88 ?_
      refine lv_topi (fun z169 ez169 => ?_)
      have iz169 : z169.toInt = o136_x6.toInt + 1 := zi_add ez169 rfl rfl (by omega) (by omega)
      refine va_putN (D := (dC, dI)) (ci := 10) (v := .int z169) (ty := .int) (C := RX10) (T := TX10) (N := 19) hx hb hts hfX10 tyX10 tyX10_ok nmX10 hown hK hP hD hS q168 eq168 rfl 6 (by decide) (va_Nw.use rfl (hN.1 (.fieldLinkNest RX11 261 "ColdShips$World" "contractCount" "I" "ColdShips") nzw_60)) (fun _ h9 => h9) rfl (tyX10_ok 6 (by decide)) rfl rfl (Nat.le_of_ble_eq_true rfl) dX11_contract_89 (tp_k (.inr (10, [.int o136_x0, .int o136_x1, .int o136_x2, .int o136_x3, .int o136_x4, .int o136_x5, .int z169, .ref (ρ_63 (ρ_63 h0 0) 7), .ref (ρ_63 (ρ_63 h0 0) 8), .ref (ρ_63 (ρ_63 h0 0) 9), .ref (ρ_63 (ρ_63 h0 0) 10), .ref (ρ_63 (ρ_63 h0 0) 11), .ref (ρ_63 (ρ_63 h0 0) 12), .ref (ρ_63 (ρ_63 h0 0) 13), .ref (ρ_63 (ρ_63 h0 0) 14), .ref (ρ_63 (ρ_63 h0 0) 15), .ref (ρ_63 (ρ_63 h0 0) 16), .ref (ρ_63 (ρ_63 h0 0) 17), .ref (ρ_63 (ρ_63 h0 0) 18)])) hD (tp_in hG y117 (by decide)) eq168 (fun f170 H locs hP hD hS g172 k171 => ?_))
      have hT := hT.up y117 g172 k171 ⟨_, _, _, _, _, _, _, rfl, ro136_0, ro136_1, ro136_2, (by first | decide | omega | (omega))⟩
      have hX := hX.wt hG0 hH k171 (Or.inr (by show (ρ_63 (ρ_63 h0 0) 30) = 0; omega))
      have hH := hH.wt y117 (by decide) k171
      refine lv_aload_n hx hb dX11_contract_92 rfl (lv_at hl 3 rfl) ?_
      refine lv_iload_n hx hb dX11_contract_93 rfl (lv_at hl 0 rfl) ?_
      have hf_173 : f170 h0 = .inr (11, [.ref (ρ_63 h0 0), .ref (ρ_63 h0 1), .ref (ρ_63 h0 2), .ref (ρ_63 h0 3), .ref (ρ_63 h0 4), .ref (ρ_63 h0 5), .int o137_x6]) := (k171 _ (tp_ne ht66 y117 (by decide))).trans hf_165
      refine tpk_pos (tp_in hG ht66 (by decide)) hf_173 (fun q174 eq174 => ?_)
      have hFc := tp_fr hD hS hA
      refine va_calli (va_runV (As := [.int o136_x6]) (rest := []) ⟨hx, hb, hml, hown, hts⟩ (t_X11_accept l dC dI _ Ω κ τ_63 ν_63 ρ_63 L_63 f170 hG hT h0 o136_x6 ht66) (cwV 1 hts gX11_contract_X11_accept rfl rfl rfl ⟨rfl, pd_X11_accept⟩ ⟨Nat.le_of_ble_eq_true rfl, Nat.le_of_ble_eq_true rfl⟩) ⟨pz_blind, va_recv hK hP (ci := 11) (q0 := q174) rfl eq174, pz_pre hP hK hD hN⟩ rfl rfl hl.1 rfl (lv_room (Nat.le_of_ble_eq_true rfl)) dX11_contract_94 ⟨Nat.le_of_ble_eq_true rfl, Nat.le_of_ble_eq_true rfl⟩) hS (fun q _ h => hFc q h) hFc (fun r175 f177 t H1 locs ht hvm hw176 hB hz1 hk1 hS => ?_)
      refine tn_4 hw176 (fun hT hF178 hw176r hw176p => ?_); clear hw176
      have hHp := hH; have hH := hH.pool hF178 (by decide)
      have hX := hX.frH hG0 hHp hF178 (by decide)
      have hP := hB.1; rw [ht] at hP; have hD := tp_ad f177 hD; clear hB hFc hz1 hk1; subst ht; generalize t.heap = H at hP hS ⊢
      have hw176pq : r175.toInt = o136_x6.toInt := by rw [hw176p]
      have hf_179 : f177 (ρ_63 h0 0) = .inr (10, [.int o136_x0, .int o136_x1, .int o136_x2, .int o136_x3, .int o136_x4, .int o136_x5, .int z169, .ref (ρ_63 (ρ_63 h0 0) 7), .ref (ρ_63 (ρ_63 h0 0) 8), .ref (ρ_63 (ρ_63 h0 0) 9), .ref (ρ_63 (ρ_63 h0 0) 10), .ref (ρ_63 (ρ_63 h0 0) 11), .ref (ρ_63 (ρ_63 h0 0) 12), .ref (ρ_63 (ρ_63 h0 0) 13), .ref (ρ_63 (ρ_63 h0 0) 14), .ref (ρ_63 (ρ_63 h0 0) 15), .ref (ρ_63 (ρ_63 h0 0) 16), .ref (ρ_63 (ρ_63 h0 0) 17), .ref (ρ_63 (ρ_63 h0 0) 18)]) := (hF178 _ (by rw [tp_iu y117]; decide)).trans g172
      have tv180 : tp_fld (f177 (ρ_63 h0 0)) 0 = o136_x0.toInt := by rw [hf_179]; rfl
      have tv181 : tp_fld (f177 (ρ_63 h0 0)) 4 = o136_x4.toInt := by rw [hf_179]; rfl
      have tv182 : tp_fld (f177 (ρ_63 h0 0)) 5 = o136_x5.toInt := by rw [hf_179]; rfl
      have hf_183 : f158 (ρ_63 h0 3) = .inr (2, [.ref (ρ_63 (ρ_63 h0 3) 0), .int o148_x1, .int o148_x2, .int o148_x3, .int o148_x4, .int o148_x5, .int o148_x6, .ref (ρ_63 (ρ_63 h0 3) 7), .int o148_x8, .ref (ρ_63 (ρ_63 h0 3) 9), .int o148_x10, .int o148_x11, .int o148_x12, .int o148_x13, .int o148_x14, .int o148_x15]) := (k159 _ (tp_ne y120 y128 (by decide))).trans hf_o148
      have hf_184 : f170 (ρ_63 h0 3) = .inr (2, [.ref (ρ_63 (ρ_63 h0 3) 0), .int o148_x1, .int o148_x2, .int o148_x3, .int o148_x4, .int o148_x5, .int o148_x6, .ref (ρ_63 (ρ_63 h0 3) 7), .int o148_x8, .ref (ρ_63 (ρ_63 h0 3) 9), .int o148_x10, .int o148_x11, .int o148_x12, .int o148_x13, .int o148_x14, .int o148_x15]) := (k171 _ (tp_ne y120 y117 (by decide))).trans hf_183
      have hf_185 : f177 (ρ_63 h0 3) = .inr (2, [.ref (ρ_63 (ρ_63 h0 3) 0), .int o148_x1, .int o148_x2, .int o148_x3, .int o148_x4, .int o148_x5, .int o148_x6, .ref (ρ_63 (ρ_63 h0 3) 7), .int o148_x8, .ref (ρ_63 (ρ_63 h0 3) 9), .int o148_x10, .int o148_x11, .int o148_x12, .int o148_x13, .int o148_x14, .int o148_x15]) := (hF178 _ (by rw [tp_iu y120]; decide)).trans hf_184
      have tv186 : tp_fld (f177 (ρ_63 h0 3)) 1 = o148_x1.toInt := by rw [hf_185]; rfl
      refine tp_widen 3 805 (Nat.le_of_ble_eq_true rfl) (Nat.le_of_ble_eq_true rfl) ?_
      exact W.iret (v := r175) hx hb hr (fun t ht hW => ⟨⟨r175, (τ_63, ν_63, ρ_63, L_63, f177), rfl, ⟨⟨hG, hT, hH⟩, ⟨hX, by show tp_fld (f177 (ρ_63 h0 0)) 0 = tp_fld (f (ρ h0 0)) 0 ∧ tp_fld (f177 (ρ_63 h0 0)) 4 = tp_fld (f (ρ h0 0)) 4 ∧ tp_fld (f177 (ρ_63 h0 0)) 5 = tp_fld (f (ρ h0 0)) 5 ∧ tp_fld (f177 (ρ_63 h0 3)) 1 = 0; rw [tv180, tv181, tv182, tv186, tv21, tv22, tv23]; exact ⟨by omega, by omega, by omega, by omega⟩⟩⟩, by rw [ht]; exact hP, va_K.moved hW.alike hK, hD⟩, hS.F ht⟩) hS.2.2 dX11_contract_97
set_option maxHeartbeats 4000000 in
set_option maxRecDepth 100000 in
theorem t_X11_image (l : Launch) (dC : Nat → ClassId) (dI : Nat → Nat → Nat) (sz : Nat) (Ω : Nat → Nat → (Nat → Nat) → va_E → Prop) (κ : Nat → ClassId) (τ ν : Nat → Nat) (ρ : Nat → Nat → Nat) (L : List Nat) (f : Nat → va_E) (hG : tp_G τ ν ρ L) (hT : tp_T Ω κ τ ν ρ f) (h0 : Nat) (v : Int32) (ht_h0 : τ h0 = 12) : Met l yX11_image wqX11_image ({ frames := 5, cells := 110, slots := 2634, locals := 1600 }) (va_Pc [.ref h0, .int v] (pz_B dC dI (tp_K κ) (va_pl L f) sz)) (va_Qi (fun (r : Int32) (x : tp_S) => tp_PX Ω κ τ ν ρ L f [5, 6, 7, 8, 9, 11, 12, 20, 21, 26, 27] none x ∧ (((¬ (0 ≤ v.toInt ∧ v.toInt ≤ 1)) → r.toInt = -1) ∧ (¬ (¬ (0 ≤ v.toInt ∧ v.toInt ≤ 1)) → r.toInt = 0)) ∧ tp_X τ ρ (fun n => ((0 ≤ v.toInt ∧ v.toInt ≤ 1) ∧ 20 * (v.toNatClampNeg + 1) ≤ n ∧ n ≤ 20 * (v.toNatClampNeg + 1) + 18)) f x.2.2.2.2 ∧ (0 ≤ v.toInt ∧ v.toInt ≤ 1 → ∃ b, tp_arr (x.2.2.2.2 (x.2.2.1 h0 1)) v.toNatClampNeg = some b ∧ tp_V ρ x.2.2.1 f x.2.2.2.2 (ρ h0 0) b) ∧ ∀ j : Nat, (0 ≤ v.toInt ∧ v.toInt ≤ 1 → j ≠ v.toNatClampNeg) → tp_arr (x.2.2.2.2 (x.2.2.1 h0 1)) j = tp_arr (f (ρ h0 1)) j) (fun (x : tp_S) (t : State) => pz_E dC dI (tp_K κ) (va_A (va_pl L f) sz) (va_pl x.2.2.2.1 x.2.2.2.2) t) (va_A (va_pl L f) sz)) 110 2634 (va_A (va_pl L f) sz) := by
  refine Met.ofW (cc := cX11_image) (maxL := 2) (ret := some .int) (by decide) rfl ?_
  intro p e s m args below meth c s₁ B hml hv
  obtain ⟨rfl, hsz, hP, hK, hD0, hN⟩ := hv
  have hx := B.exec
  have hb := B.bytes
  have hr := B.returns
  have hts := fun (w : Cond) (h : w ∈ WALL) => atoms_spec (ws := wqX11_image) B.pre w (List.mem_cons_of_mem _ h)
  have hown : s.vm.findClass RX11 = some m.cls := findClass_of_methodNamed B.named
  have hlocks := B.notSynchronized
  subst hsz
  have hD := hD0.self (sz := s.heap.size)
  generalize hAe : va_A (va_pl L f) s.heap.size = A at hD ⊢
  have hA : ∀ q : Nat, s.heap.size ≤ q → A q := fun q h => by rw [← hAe]; exact Or.inr h
  have hS : va_S A s.heap s.heap [] := va_S.rf
  have hH : tp_H τ ν ρ L f [5, 6, 7, 8, 9, 11, 12, 20, 21, 26, 27] none τ ν ρ L f := tp_H.rf
  have hG0 := hG
  have hX : tp_X τ ρ (fun n => ((0 ≤ v.toInt ∧ v.toInt ≤ 1) ∧ 20 * (v.toNatClampNeg + 1) ≤ n ∧ n ≤ 20 * (v.toNatClampNeg + 1) + 18)) f f := tp_X.rf
  have hl := lv_entry ([.ref h0, .int v]) (n := 2) (Nat.le_of_ble_eq_true rfl)
  rw [lg_entry_eq]
  generalize (lg_sl ([.ref h0, .int v]) ++ List.replicate (2 - (lg_sl ([.ref h0, .int v])).length) Slot.unset).toArray = ls at hl ⊢
  have hl : lv_has ls 2 [(0, .ref h0), (1, .int v)] := hl
  refine tgk_12 hG ht_h0 (fun y1 y1l y2 y3 y4 y5 y6 y7a y7b y7c => ?_)
  refine tgk_11 hG y1 (fun y8 y8n y9 y9n y10 y11 y12 y13 y13m y13l y14 y14m y14l y15 y15m y15l y16 y16w y16m y16l y17 y17w y17m y17l y18 y18w y18m y18l y19 y19w y19m y19l => ?_)
  refine tpk_11 hT y1 (fun o20_x0 o20_x1 o20_x2 o20_x3 o20_x4 o20_x5 o20_x6 hf_o20 ro20_0 ro20_1 ro20_2 ro20_3 => ?_)
  have ro20_0 := tp_hu ro20_0
  have tv21 : tp_fld (f (ρ h0 0)) 0 = o20_x0.toInt := by rw [hf_o20]; rfl
  have ro20_1 := tp_hu ro20_1
  have tv22 : tp_fld (f (ρ h0 0)) 4 = o20_x4.toInt := by rw [hf_o20]; rfl
  have ro20_2 := tp_hu ro20_2
  have tv23 : tp_fld (f (ρ h0 0)) 5 = o20_x5.toInt := by rw [hf_o20]; rfl
  refine tgk_7 hG y14 (fun y24 y24n y25 y25n y26 y26n y27a y27b => ?_)
  refine tpk_7 hT y14 (fun o28_x3 hf_o28 ro28_0 => ?_)
  have ro28_0 := tp_hu ro28_0
  have tv29 : tp_fld (f (ρ (ρ h0 0) 13)) 3 = o28_x3.toInt := by rw [hf_o28]; rfl
  refine tgk_7 hG y15 (fun y30 y30n y31 y31n y32 y32n y33a y33b => ?_)
  refine tpk_7 hT y15 (fun o34_x3 hf_o34 ro34_0 => ?_)
  have ro34_0 := tp_hu ro34_0
  have tv35 : tp_fld (f (ρ (ρ h0 0) 14)) 3 = o34_x3.toInt := by rw [hf_o34]; rfl
  refine tgk_5 hG y16 (fun y36 y36n y37a y37b y37c => ?_)
  refine tpk_5 hT y16 (fun o38_x0 o38_x2 hf_o38 ro38_0 ro38_1 => ?_)
  have ro38_1 := tp_hu ro38_1
  have tv39 : tp_fld (f (ρ (ρ h0 0) 15)) 2 = o38_x2.toInt := by rw [hf_o38]; rfl
  refine tgk_5 hG y19 (fun y40 y40n y41a y41b y41c => ?_)
  refine tpk_5 hT y19 (fun o42_x0 o42_x2 hf_o42 ro42_0 ro42_1 => ?_)
  have ro42_1 := tp_hu ro42_1
  have tv43 : tp_fld (f (ρ (ρ h0 0) 18)) 2 = o42_x2.toInt := by rw [hf_o42]; rfl
  refine tpk_27 hT y2 (fun g45 hf_o44 hf_o44e => ?_)
  have im46 : tp_arr (f (ρ h0 1)) = g45 := by rw [hf_o44]; rfl
  refine lv_iload_n hx hb dX11_image_0 rfl (lv_at hl 1 rfl) ?_
  refine lv_iconst (v := 0) hx hb dX11_image_1 (by decide) ?_
  refine lv_aload_n hx hb dX11_image_2 rfl (lv_at hl 0 rfl) ?_
  refine tpk_12 hT ht_h0 (fun o47_x6 hf_o47 => ?_)
  refine tpk_pos (tp_in hG ht_h0 (by decide)) hf_o47 (fun q48 eq48 => ?_)
  refine va_get (D := (dC, dI)) (ci := 11) (v := .ref (ρ h0 1)) (C := RX11) (T := TX11) (N := 7) hx hb hts hfX11 hown hK hP q48 eq48 rfl 1 (by decide) (hts (.fieldLink RX11 16 "ColdShips" "images" "[LColdShips$World;") wa_16) (fun _ h9 => h9) rfl dX11_image_3 ?_
  refine tpk_pos (tp_in hG y2 (by decide)) hf_o44 (fun q49 eq49 => ?_)
  refine va_alen hx hb hK hP q49 7 eq49 rfl (rfl : Int32.ofNat 2 = (2 : Int32)) dX11_image_6 ?_
  refine lv_iconst (v := 1) hx hb dX11_image_7 (by decide) ?_
  refine lv_isub hx hb dX11_image_8 ?_
  refine lv_topi (fun z50 ez50 => ?_)
  obtain rfl : z50 = 1 := ez50.trans (by first | rfl | decide)
  refine pz_calli (va_runS (As := [.int v, .int 0, .int 1]) (rest := []) ⟨hx, hb, hml, hown, hts⟩ (t_X11_within l dC dI _ v (0) (1) (v.toInt) (0) (1) rfl rfl rfl) (va_cwS 3 hts gX11_image_X11_within rfl rfl rfl pd_X11_within ⟨Nat.le_of_ble_eq_true rfl, Nat.le_of_ble_eq_true rfl⟩) ⟨pz_blind, pz_pre pz_P0 (hK.sub (tys' := []) [] rfl) (pz_D0 (A := fun _ => True)) hN⟩ rfl rfl hl.1 rfl (lv_room (Nat.le_of_ble_eq_true rfl)) dX11_image_9 ⟨Nat.le_of_ble_eq_true rfl, Nat.le_of_ble_eq_true rfl⟩) (fun r51 hw52 => ?_)
  obtain ⟨hw52r, hw52p⟩ := hw52
  refine lv_if_ne (tgt := 21) hx hb dX11_image_12 (by decide) (fun c53 => ?_) (fun c53 => ?_)
  · have ic53 : r51.toInt ≠ 0 := zi_ne rfl rfl c53
    have p54 : (0) ≤ (v.toInt) ∧ (v.toInt) ≤ (1) := (tp_cond.yes hw52p) (by omega)
    clear hw52r ic53
    refine lv_aload_n hx hb dX11_image_21 rfl (lv_at hl 0 rfl) ?_
    refine va_get (D := (dC, dI)) (ci := 11) (v := .ref (ρ h0 1)) (C := RX11) (T := TX11) (N := 7) hx hb hts hfX11 hown hK hP q48 eq48 rfl 1 (by decide) (hts (.fieldLink RX11 16 "ColdShips" "images" "[LColdShips$World;") wa_16) (fun _ h9 => h9) rfl dX11_image_22 ?_
    refine lv_iload_n hx hb dX11_image_25 rfl (lv_at hl 1 rfl) ?_
    refine va_aldq hx hb hK hP q49 7 eq49 rfl (vp_in_iff.mpr ⟨by omega, by omega⟩) dX11_image_26 ?_
    have hq55 := hf_o44e v.toNatClampNeg (zi_cl (vp_in_iff.mpr ⟨by omega, by omega⟩))
    rcases hq55 with hq57 | ⟨b56, hq57, hq57t, hq57l⟩
    · rw [hq57]
      refine lv_ifnonnullN hx hb dX11_image_27 ?_
      refine lv_aload_n hx hb dX11_image_30 rfl (lv_at hl 0 rfl) ?_
      refine va_get (D := (dC, dI)) (ci := 11) (v := .ref (ρ h0 1)) (C := RX11) (T := TX11) (N := 7) hx hb hts hfX11 hown hK hP q48 eq48 rfl 1 (by decide) (hts (.fieldLink RX11 16 "ColdShips" "images" "[LColdShips$World;") wa_16) (fun _ h9 => h9) rfl dX11_image_31 ?_
      refine lv_iload_n hx hb dX11_image_34 rfl (lv_at hl 1 rfl) ?_
      obtain ⟨b58, eb58⟩ : ∃ b : Nat, b = (ρ h0 1) := ⟨_, rfl⟩
      have tb58 : τ b58 = 27 := by rw [eb58]; exact y2
      rw [← eb58]
      refine va_new (ci := 10) (fs := [.int 0, .int 0, .int 0, .int 0, .int 0, .int 0, .int 0, .null, .null, .null, .null, .null, .null, .null, .null, .null, .null, .null, .null]) (C := RX10) (T := TX10) (N := 19) hx hb hts hfX10 tyX10 tyX10_ok hown (hts (.classLink RX11 7 RX10) wa_12) (hts (.instantiable RX10 19) wa_13) (hts (.initialized RX10) wa_14) hK hP hD hS hA rfl (fun j hj => by rcases tpj_19 j hj with rfl | rfl | rfl | rfl | rfl | rfl | rfl | rfl | rfl | rfl | rfl | rfl | rfl | rfl | rfl | rfl | rfl | rfl | rfl <;> rfl) (Nat.le_of_ble_eq_true rfl) (Nat.le_of_ble_eq_true rfl) dX11_image_35 (fun q59 H hP hD hS => ?_)
      refine Exists.elim (tp_grow hG hT hP hD) (fun L69 hE90 => Exists.elim hE90 (fun f68 hE91 => tn_10 hE91 (fun hP hD hg60 ht61 hs62 hq63 hz64 hn65 hf66 ho67 => ?_)))
      clear hE91 hE90
      have hn70 : ∀ a, a ∈ L → a ≠ q59 := fun a ha => hn65 a (hH.1 a ha)
      have ne71 : h0 ≠ q59 := hn65 _ (tp_in hG ht_h0 (by decide))
      have ne72 : b58 ≠ q59 := hn65 _ (tp_in hG tb58 (by decide))
      have hG := hg60
      have hT := ht61
      have hH := hH.gr hs62 hn65 ho67
      have hX := hX.gr hG0 hn70 ho67
      refine lv_dup hx hb dX11_image_38 rfl ?_
      have imn9 : ρ h0 0 ≠ q59 := fun z => hn70 _ (hG0.1 _ (by rw [tp_iu y1]; decide)) z
      have hFc := tp_fr hD hS hA
      refine va_callv (va_runI (As := []) (rest := [.ref q59, .int v, .ref b58]) ⟨hx, hb, hml, hown, hts⟩ (t_X10_init l dC dI _ Ω κ τ ν ρ L69 f68 hG hT q59 (20 * (v.toNatClampNeg + 1)) False hq63 hz64 hf66 (fun h9 => h9.elim)) (cwI 0 hts ggX11_image_X10_init rfl rfl rfl (hts (.initialized RX10) wa_14) (hts (.methodLink RX11 9 yX10_init) wa_33) (hts (.instanceMethod yX10_init) wa_34) rfl pd_X10_init ⟨Nat.le_of_ble_eq_true rfl, Nat.le_of_ble_eq_true rfl⟩) ⟨pz_blind, pz_pre hP hK hD hN⟩ rfl rfl hl.1 rfl (lv_room (Nat.le_of_ble_eq_true rfl)) dX11_image_39 ⟨Nat.le_of_ble_eq_true rfl, Nat.le_of_ble_eq_true rfl⟩) hS (fun q _ h => hFc q h) hFc (fun x73 t H1 locs ht hvm hw75 hB hz1 hk1 hS => ?_)
      obtain ⟨τ_77, ν_77, ρ_77, L_77, f76⟩ := x73
      obtain ⟨⟨hG9, hT9, hH9⟩, hw75p⟩ := hw75
      have hX := hX.cl hG0 hH hH9 (by decide) (fun a ha z => hn70 a ha (Option.some.inj z))
      have hc78 := hH9.2 _ (tp_in hG ht_h0 (by decide)) (fun z => ne71 (Option.some.inj z))
      have hc79 := hH9.2 _ (tp_in hG tb58 (by decide)) (fun z => ne72 (Option.some.inj z))
      have ri9 : ρ_77 h0 1 = b58 := (congrFun hc78.2.2.1 1).trans eb58.symm
      have ia9 : tp_arr (f76 b58) = tp_arr (f (ρ h0 1)) := by rw [(show f76 b58 = f68 b58 from hc79.2.2.2 (by rw [tb58]; decide)), ho67 _ ne72, eb58]
      have rh9 : ρ_77 h0 = ρ h0 := hc78.2.2.1
      have rw9 : ρ_77 (ρ h0 0) = ρ (ρ h0 0) := (hH9.2 _ (tp_in hG y1 (by decide)) (fun z => imn9 (Option.some.inj z))).2.2.1
      have hH := hH.call hH9 (by decide) (fun a ha _ z => hn70 a ha (Option.some.inj z))
      have hG : tp_G τ_77 ν_77 ρ_77 L_77 := hG9; have hT : tp_T Ω κ τ_77 ν_77 ρ_77 f76 := hT9
      have hH : tp_H τ ν ρ L f [5, 6, 7, 8, 9, 11, 12, 20, 21, 26, 27] none τ_77 ν_77 ρ_77 L_77 f76 := hH
      have hw75p := hw75p.1
      have hP := hB.1; rw [ht] at hP; have hD := tp_Dw hB.2.2 hFc; clear hB hFc hz1 hk1; subst ht; generalize t.heap = H at hP hS ⊢
      have hP : va_P (dC, dI) vwCl (va_pl L_77 f76) H := hP
      have hD : va_D A (va_pl L_77 f76) := hD
      have ht80 : τ_77 h0 = 12 := hc78.1.trans ht_h0
      have ht81 : τ_77 b58 = 27 := hc79.1.trans tb58
      clear ht_h0 tb58 ne71 ne72 hc78 hc79 hG9 hT9 hH9
      have ht82 : τ_77 q59 = 11 := hw75p.1
      have hx83 : ρ_77 q59 30 = (20 * (v.toNatClampNeg + 1)) := hw75p.2
      refine tpk_27 hT ht81 (fun g85 hf_o84 hf_o84e => ?_)
      have ig9 : g85 = tp_arr (f (ρ h0 1)) := by have q9 := ia9; rw [hf_o84] at q9; exact q9
      refine tpk_pos (tp_in hG ht81 (by decide)) hf_o84 (fun q86 eq86 => ?_)
      refine tgk_11 hG ht82 (fun y90 y90n y91 y91n y92 y93 y94 y95 y95m y95l y96 y96m y96l y97 y97m y97l y98 y98w y98m y98l y99 y99w y99m y99l y100 y100w y100m y100l y101 y101w y101m y101l => ?_)
      refine tpk_11 hT ht82 (fun o102_x0 o102_x1 o102_x2 o102_x3 o102_x4 o102_x5 o102_x6 hf_o102 ro102_0 ro102_1 ro102_2 ro102_3 => ?_)
      refine tpk_pos (tp_in hG ht82 (by decide)) hf_o102 (fun q103 eq103 => ?_)
      refine va_astq hx hb hK hP hD hS q86 7 q103 10 eq86 rfl eq103 rfl (vp_in_iff.mpr ⟨by omega, by omega⟩) dX11_image_42 (tp_k (.inl (κ 7, 2, .inr (.inr (.inr (.inr (va_up g85 v.toNatClampNeg (some q59))))))) hD (tp_in hG ht81 (by decide)) eq86 (fun f87 H locs hP hD hS g89 k88 => ?_))
      have hT := hT.up ht81 g89 k88 ⟨_, rfl, (tp_nu hf_o84e _ ⟨ht82, hx83⟩)⟩
      have hX := hX.wt hG0 hH k88 (Or.inl (by rw [ht81]; decide))
      have hH := hH.wt ht81 (by decide) k88
      have hq104 : (va_up g85 v.toNatClampNeg (some q59)) v.toNatClampNeg = some q59 := by simp [va_up]
      have hq104t : τ_77 q59 = 11 := ht82
      refine lv_aload_n hx hb dX11_image_43 rfl (lv_at hl 0 rfl) ?_
      refine tgk_12 hG ht80 (fun y105 y105l y106 y107 y108 y109 y110 y111a y111b y111c => ?_)
      refine tpk_12 hT ht80 (fun o112_x6 hf_o112 => ?_)
      refine tpk_pos (tp_in hG ht80 (by decide)) hf_o112 (fun q113 eq113 => ?_)
      refine va_get (D := (dC, dI)) (ci := 11) (v := .ref (ρ_77 h0 1)) (C := RX11) (T := TX11) (N := 7) hx hb hts hfX11 hown hK hP q113 eq113 rfl 1 (by decide) (hts (.fieldLink RX11 16 "ColdShips" "images" "[LColdShips$World;") wa_16) (fun _ h9 => h9) rfl dX11_image_44 ?_
      rw [ri9]
      refine lv_iload_n hx hb dX11_image_47 rfl (lv_at hl 1 rfl) ?_
      refine tpk_pos (tp_in hG ht81 (by decide)) g89 (fun q114 eq114 => ?_)
      refine va_aldq hx hb hK hP q114 7 eq114 rfl (vp_in_iff.mpr ⟨by omega, by omega⟩) dX11_image_48 ?_
      refine W.eq (g2 := F0 m 49 ls (.ref q59 :: [])) (congrArg (fun o => F0 m 49 ls (va_rf o :: [])) hq104) ?_
      refine lv_aload_n hx hb dX11_image_49 rfl (lv_at hl 0 rfl) ?_
      refine va_get (D := (dC, dI)) (ci := 11) (v := .ref (ρ_77 h0 0)) (C := RX11) (T := TX11) (N := 7) hx hb hts hfX11 hown hK hP q113 eq113 rfl 0 (by decide) (hts (.fieldLink RX11 10 "ColdShips" "world" "LColdShips$World;") wa_15) (fun _ h9 => h9) rfl dX11_image_50 ?_
      have fv0 : tp_fld (f87 (ρ_77 h0 0)) 0 = tp_fld (f (ρ h0 0)) 0 := by rw [rh9, hX (ρ h0 0) (by rw [y1]; decide) (fun q9 => by have q8 : ((0 ≤ v.toInt ∧ v.toInt ≤ 1) ∧ 20 * (v.toNatClampNeg + 1) ≤ (ρ (ρ h0 0) 30) ∧ (ρ (ρ h0 0) 30) ≤ 20 * (v.toNatClampNeg + 1) + 18) := q9; omega)]
      have fv1 : tp_fld (f87 (ρ_77 h0 0)) 4 = tp_fld (f (ρ h0 0)) 4 := by rw [rh9, hX (ρ h0 0) (by rw [y1]; decide) (fun q9 => by have q8 : ((0 ≤ v.toInt ∧ v.toInt ≤ 1) ∧ 20 * (v.toNatClampNeg + 1) ≤ (ρ (ρ h0 0) 30) ∧ (ρ (ρ h0 0) 30) ≤ 20 * (v.toNatClampNeg + 1) + 18) := q9; omega)]
      have fv2 : tp_fld (f87 (ρ_77 h0 0)) 5 = tp_fld (f (ρ h0 0)) 5 := by rw [rh9, hX (ρ h0 0) (by rw [y1]; decide) (fun q9 => by have q8 : ((0 ≤ v.toInt ∧ v.toInt ≤ 1) ∧ 20 * (v.toNatClampNeg + 1) ≤ (ρ (ρ h0 0) 30) ∧ (ρ (ρ h0 0) 30) ≤ 20 * (v.toNatClampNeg + 1) + 18) := q9; omega)]
      have fv3 : tp_fld (f87 (ρ_77 (ρ_77 h0 0) 13)) 3 = tp_fld (f (ρ (ρ h0 0) 13)) 3 := by rw [rh9, rw9, hX (ρ (ρ h0 0) 13) (by rw [y14]; decide) (fun q9 => by have q8 : ((0 ≤ v.toInt ∧ v.toInt ≤ 1) ∧ 20 * (v.toNatClampNeg + 1) ≤ (ρ (ρ (ρ h0 0) 13) 30) ∧ (ρ (ρ (ρ h0 0) 13) 30) ≤ 20 * (v.toNatClampNeg + 1) + 18) := q9; omega)]
      have fv4 : tp_fld (f87 (ρ_77 (ρ_77 h0 0) 14)) 3 = tp_fld (f (ρ (ρ h0 0) 14)) 3 := by rw [rh9, rw9, hX (ρ (ρ h0 0) 14) (by rw [y15]; decide) (fun q9 => by have q8 : ((0 ≤ v.toInt ∧ v.toInt ≤ 1) ∧ 20 * (v.toNatClampNeg + 1) ≤ (ρ (ρ (ρ h0 0) 14) 30) ∧ (ρ (ρ (ρ h0 0) 14) 30) ≤ 20 * (v.toNatClampNeg + 1) + 18) := q9; omega)]
      have fv5 : tp_fld (f87 (ρ_77 (ρ_77 h0 0) 15)) 2 = tp_fld (f (ρ (ρ h0 0) 15)) 2 := by rw [rh9, rw9, hX (ρ (ρ h0 0) 15) (by rw [y16]; decide) (fun q9 => by have q8 : ((0 ≤ v.toInt ∧ v.toInt ≤ 1) ∧ 20 * (v.toNatClampNeg + 1) ≤ (ρ (ρ (ρ h0 0) 15) 30) ∧ (ρ (ρ (ρ h0 0) 15) 30) ≤ 20 * (v.toNatClampNeg + 1) + 18) := q9; omega)]
      have fv6 : tp_fld (f87 (ρ_77 (ρ_77 h0 0) 18)) 2 = tp_fld (f (ρ (ρ h0 0) 18)) 2 := by rw [rh9, rw9, hX (ρ (ρ h0 0) 18) (by rw [y19]; decide) (fun q9 => by have q8 : ((0 ≤ v.toInt ∧ v.toInt ≤ 1) ∧ 20 * (v.toNatClampNeg + 1) ≤ (ρ (ρ (ρ h0 0) 18) 30) ∧ (ρ (ρ (ρ h0 0) 18) 30) ≤ 20 * (v.toNatClampNeg + 1) + 18) := q9; omega)]
      have hf_115 : f87 q59 = .inr (10, [.int o102_x0, .int o102_x1, .int o102_x2, .int o102_x3, .int o102_x4, .int o102_x5, .int o102_x6, .ref (ρ_77 q59 7), .ref (ρ_77 q59 8), .ref (ρ_77 q59 9), .ref (ρ_77 q59 10), .ref (ρ_77 q59 11), .ref (ρ_77 q59 12), .ref (ρ_77 q59 13), .ref (ρ_77 q59 14), .ref (ρ_77 q59 15), .ref (ρ_77 q59 16), .ref (ρ_77 q59 17), .ref (ρ_77 q59 18)]) := (k88 _ (tp_ne ht82 ht81 (by decide))).trans hf_o102
      refine tpk_pos (tp_in hG ht82 (by decide)) hf_115 (fun q116 eq116 => ?_)
      have hFc := tp_fr hD hS hA
      refine va_callv (va_runV (As := [.ref (ρ_77 h0 0)]) (rest := []) ⟨hx, hb, hml, hown, hts⟩ (t_X10_copyFrom l dC dI _ Ω κ τ_77 ν_77 ρ_77 L_77 f87 hG hT q59 (ρ_77 h0 0) ht82 y105 (by omega)) (cwV 1 hts gX11_image_X10_copyFrom rfl rfl rfl ⟨rfl, pd_X10_copyFrom⟩ ⟨Nat.le_of_ble_eq_true rfl, Nat.le_of_ble_eq_true rfl⟩) ⟨pz_blind, va_recv hK hP (ci := 10) (q0 := q116) rfl eq116, pz_pre hP hK hD hN⟩ rfl rfl hl.1 rfl (lv_room (Nat.le_of_ble_eq_true rfl)) dX11_image_53 ⟨Nat.le_of_ble_eq_true rfl, Nat.le_of_ble_eq_true rfl⟩) hS (fun q _ h => hFc q h) hFc (fun f119 t H1 locs ht hvm hw118 hB hz1 hk1 hS => ?_)
      refine tn_3 hw118 (fun hT hF120 hw118p => ?_); clear hw118
      have hHp := hH; have hH := hH.pool hF120 (by decide)
      obtain ⟨hw118x, hw118p⟩ := hw118p
      have hX := hX.thH hG0 hHp hw118x (fun n q9 => by have q8 : (ρ_77 q59 30 ≤ n ∧ n ≤ ρ_77 q59 30 + 18) := q9; show ((0 ≤ v.toInt ∧ v.toInt ≤ 1) ∧ 20 * (v.toNatClampNeg + 1) ≤ n ∧ n ≤ 20 * (v.toNatClampNeg + 1) + 18); omega)
      have hP := hB.1; rw [ht] at hP; have hD := tp_ad f119 hD; clear hB hFc hz1 hk1; subst ht; generalize t.heap = H at hP hS ⊢
      refine tpk_11 hT ht82 (fun o121_x0 o121_x1 o121_x2 o121_x3 o121_x4 o121_x5 o121_x6 hf_o121 ro121_0 ro121_1 ro121_2 ro121_3 => ?_)
      have ro121_0 := tp_hu ro121_0
      have tv122 : tp_fld (f119 q59) 0 = o121_x0.toInt := by rw [hf_o121]; rfl
      have tv123 : tp_fld (f119 q59) 1 = o121_x1.toInt := by rw [hf_o121]; rfl
      have tv124 : tp_fld (f119 q59) 2 = o121_x2.toInt := by rw [hf_o121]; rfl
      have tv125 : tp_fld (f119 q59) 3 = o121_x3.toInt := by rw [hf_o121]; rfl
      have ro121_1 := tp_hu ro121_1
      have tv126 : tp_fld (f119 q59) 4 = o121_x4.toInt := by rw [hf_o121]; rfl
      have ro121_2 := tp_hu ro121_2
      have tv127 : tp_fld (f119 q59) 5 = o121_x5.toInt := by rw [hf_o121]; rfl
      have ro121_3 := tp_hu ro121_3
      have tv128 : tp_fld (f119 q59) 6 = o121_x6.toInt := by rw [hf_o121]; rfl
      refine tgk_7 hG y95 (fun y129 y129n y130 y130n y131 y131n y132a y132b => ?_)
      refine tpk_7 hT y95 (fun o133_x3 hf_o133 ro133_0 => ?_)
      have ro133_0 := tp_hu ro133_0
      have tv134 : tp_fld (f119 (ρ_77 q59 12)) 3 = o133_x3.toInt := by rw [hf_o133]; rfl
      refine tgk_7 hG y96 (fun y135 y135n y136 y136n y137 y137n y138a y138b => ?_)
      refine tpk_7 hT y96 (fun o139_x3 hf_o139 ro139_0 => ?_)
      have ro139_0 := tp_hu ro139_0
      have tv140 : tp_fld (f119 (ρ_77 q59 13)) 3 = o139_x3.toInt := by rw [hf_o139]; rfl
      refine tgk_7 hG y97 (fun y141 y141n y142 y142n y143 y143n y144a y144b => ?_)
      refine tpk_7 hT y97 (fun o145_x3 hf_o145 ro145_0 => ?_)
      have ro145_0 := tp_hu ro145_0
      have tv146 : tp_fld (f119 (ρ_77 q59 14)) 3 = o145_x3.toInt := by rw [hf_o145]; rfl
      refine tgk_5 hG y98 (fun y147 y147n y148a y148b y148c => ?_)
      refine tpk_5 hT y98 (fun o149_x0 o149_x2 hf_o149 ro149_0 ro149_1 => ?_)
      have ro149_1 := tp_hu ro149_1
      have tv150 : tp_fld (f119 (ρ_77 q59 15)) 2 = o149_x2.toInt := by rw [hf_o149]; rfl
      refine tgk_5 hG y99 (fun y151 y151n y152a y152b y152c => ?_)
      refine tpk_5 hT y99 (fun o153_x0 o153_x2 hf_o153 ro153_0 ro153_1 => ?_)
      have ro153_1 := tp_hu ro153_1
      have tv154 : tp_fld (f119 (ρ_77 q59 16)) 2 = o153_x2.toInt := by rw [hf_o153]; rfl
      refine tgk_5 hG y100 (fun y155 y155n y156a y156b y156c => ?_)
      refine tpk_5 hT y100 (fun o157_x0 o157_x2 hf_o157 ro157_0 ro157_1 => ?_)
      have ro157_1 := tp_hu ro157_1
      have tv158 : tp_fld (f119 (ρ_77 q59 17)) 2 = o157_x2.toInt := by rw [hf_o157]; rfl
      refine tgk_5 hG y101 (fun y159 y159n y160a y160b y160c => ?_)
      refine tpk_5 hT y101 (fun o161_x0 o161_x2 hf_o161 ro161_0 ro161_1 => ?_)
      have ro161_1 := tp_hu ro161_1
      have tv162 : tp_fld (f119 (ρ_77 q59 18)) 2 = o161_x2.toInt := by rw [hf_o161]; rfl
      have pl163 : (o121_x0.toInt = (tp_fld (f87 (ρ_77 h0 0)) 0)) ∧ (o121_x1.toInt = (tp_fld (f87 (ρ_77 h0 0)) 1)) ∧ (o121_x2.toInt = (tp_fld (f87 (ρ_77 h0 0)) 2)) ∧ (o121_x3.toInt = (tp_fld (f87 (ρ_77 h0 0)) 3)) ∧ (o121_x4.toInt = (tp_fld (f87 (ρ_77 h0 0)) 4)) ∧ (o121_x5.toInt = (tp_fld (f87 (ρ_77 h0 0)) 5)) ∧ (o121_x6.toInt = (tp_fld (f87 (ρ_77 h0 0)) 6)) ∧ (o133_x3.toInt = (tp_fld (f87 (ρ_77 (ρ_77 h0 0) 12)) 3)) ∧ (o139_x3.toInt = (tp_fld (f87 (ρ_77 (ρ_77 h0 0) 13)) 3)) ∧ (o145_x3.toInt = (tp_fld (f87 (ρ_77 (ρ_77 h0 0) 14)) 3)) ∧ (o149_x2.toInt = (tp_fld (f87 (ρ_77 (ρ_77 h0 0) 15)) 2)) ∧ (o153_x2.toInt = (tp_fld (f87 (ρ_77 (ρ_77 h0 0) 16)) 2)) ∧ (o157_x2.toInt = (tp_fld (f87 (ρ_77 (ρ_77 h0 0) 17)) 2)) ∧ (o161_x2.toInt = (tp_fld (f87 (ρ_77 (ρ_77 h0 0) 18)) 2)) := by have q9 := hw118p; rw [tv122, tv123, tv124, tv125, tv126, tv127, tv128, tv134, tv140, tv146, tv150, tv154, tv158, tv162] at q9; exact q9
      refine lv_aload_n hx hb dX11_image_56 rfl (lv_at hl 0 rfl) ?_
      refine lv_iconst (v := 0) hx hb dX11_image_57 (by decide) ?_
      have hf_164 : f119 h0 = .inr (11, [.ref (ρ_77 h0 0), .ref (ρ_77 h0 1), .ref (ρ_77 h0 2), .ref (ρ_77 h0 3), .ref (ρ_77 h0 4), .ref (ρ_77 h0 5), .int o112_x6]) := (hF120 _ (by rw [ht80]; decide)).trans hf_o112
      refine tpk_pos (tp_in hG ht80 (by decide)) hf_164 (fun q165 eq165 => ?_)
      have hFc := tp_fr hD hS hA
      refine va_calli (va_runV (As := [.int 0]) (rest := []) ⟨hx, hb, hml, hown, hts⟩ (t_X11_accept l dC dI _ Ω κ τ_77 ν_77 ρ_77 L_77 f119 hG hT h0 (0) ht80) (cwV 1 hts gX11_image_X11_accept rfl rfl rfl ⟨rfl, pd_X11_accept⟩ ⟨Nat.le_of_ble_eq_true rfl, Nat.le_of_ble_eq_true rfl⟩) ⟨pz_blind, va_recv hK hP (ci := 11) (q0 := q165) rfl eq165, pz_pre hP hK hD hN⟩ rfl rfl hl.1 rfl (lv_room (Nat.le_of_ble_eq_true rfl)) dX11_image_58 ⟨Nat.le_of_ble_eq_true rfl, Nat.le_of_ble_eq_true rfl⟩) hS (fun q _ h => hFc q h) hFc (fun r166 f168 t H1 locs ht hvm hw167 hB hz1 hk1 hS => ?_)
      refine tn_4 hw167 (fun hT hF169 hw167r hw167p => ?_); clear hw167
      have hHp := hH; have hH := hH.pool hF169 (by decide)
      have hX := hX.frH hG0 hHp hF169 (by decide)
      have hP := hB.1; rw [ht] at hP; have hD := tp_ad f168 hD; clear hB hFc hz1 hk1; subst ht; generalize t.heap = H at hP hS ⊢
      have hw167pq : r166.toInt = 0 := by rw [hw167p]; rfl
      have hf_170 : f119 b58 = .inl (κ 7, 2, .inr (.inr (.inr (.inr (va_up g85 v.toNatClampNeg (some q59)))))) := (hF120 _ (by rw [ht81]; decide)).trans g89
      have hf_171 : f168 b58 = .inl (κ 7, 2, .inr (.inr (.inr (.inr (va_up g85 v.toNatClampNeg (some q59)))))) := (hF169 _ (by rw [ht81]; decide)).trans hf_170
      have ie172 : tp_arr (f168 (ρ_77 h0 1)) = (va_up g85 v.toNatClampNeg (some q59)) := by rw [ri9, hf_171]; rfl
      have hf_173 : f168 q59 = .inr (10, [.int o121_x0, .int o121_x1, .int o121_x2, .int o121_x3, .int o121_x4, .int o121_x5, .int o121_x6, .ref (ρ_77 q59 7), .ref (ρ_77 q59 8), .ref (ρ_77 q59 9), .ref (ρ_77 q59 10), .ref (ρ_77 q59 11), .ref (ρ_77 q59 12), .ref (ρ_77 q59 13), .ref (ρ_77 q59 14), .ref (ρ_77 q59 15), .ref (ρ_77 q59 16), .ref (ρ_77 q59 17), .ref (ρ_77 q59 18)]) := (hF169 _ (by rw [ht82]; decide)).trans hf_o121
      have tv174 : tp_fld (f168 q59) 0 = o121_x0.toInt := by rw [hf_173]; rfl
      have tv175 : tp_fld (f168 q59) 4 = o121_x4.toInt := by rw [hf_173]; rfl
      have tv176 : tp_fld (f168 q59) 5 = o121_x5.toInt := by rw [hf_173]; rfl
      have hf_177 : f168 (ρ_77 q59 13) = .inr (6, [.ref (ρ_77 (ρ_77 q59 13) 0), .ref (ρ_77 (ρ_77 q59 13) 1), .ref (ρ_77 (ρ_77 q59 13) 2), .int o139_x3]) := (hF169 _ (by rw [tp_iu y96]; decide)).trans hf_o139
      have tv178 : tp_fld (f168 (ρ_77 q59 13)) 3 = o139_x3.toInt := by rw [hf_177]; rfl
      have hf_179 : f168 (ρ_77 q59 14) = .inr (6, [.ref (ρ_77 (ρ_77 q59 14) 0), .ref (ρ_77 (ρ_77 q59 14) 1), .ref (ρ_77 (ρ_77 q59 14) 2), .int o145_x3]) := (hF169 _ (by rw [tp_iu y97]; decide)).trans hf_o145
      have tv180 : tp_fld (f168 (ρ_77 q59 14)) 3 = o145_x3.toInt := by rw [hf_179]; rfl
      have hf_181 : f168 (ρ_77 q59 15) = .inr (4, [.int o149_x0, .ref (ρ_77 (ρ_77 q59 15) 1), .int o149_x2]) := (hF169 _ (by rw [tp_iu y98]; decide)).trans hf_o149
      have tv182 : tp_fld (f168 (ρ_77 q59 15)) 2 = o149_x2.toInt := by rw [hf_181]; rfl
      have hf_183 : f168 (ρ_77 q59 18) = .inr (4, [.int o161_x0, .ref (ρ_77 (ρ_77 q59 18) 1), .int o161_x2]) := (hF169 _ (by rw [tp_iu y101]; decide)).trans hf_o161
      have tv184 : tp_fld (f168 (ρ_77 q59 18)) 2 = o161_x2.toInt := by rw [hf_183]; rfl
      have eq185 : o121_x0.toInt = tp_fld (f (ρ h0 0)) 0 ∧ o121_x4.toInt = tp_fld (f (ρ h0 0)) 4 ∧ o121_x5.toInt = tp_fld (f (ρ h0 0)) 5 ∧ o139_x3.toInt = tp_fld (f (ρ (ρ h0 0) 13)) 3 ∧ o145_x3.toInt = tp_fld (f (ρ (ρ h0 0) 14)) 3 ∧ o149_x2.toInt = tp_fld (f (ρ (ρ h0 0) 15)) 2 ∧ o161_x2.toInt = tp_fld (f (ρ (ρ h0 0) 18)) 2 := by have q9 := pl163; exact ⟨by omega, by omega, by omega, by omega, by omega, by omega, by omega⟩
      refine tp_widen 110 2634 (Nat.le_of_ble_eq_true rfl) (Nat.le_of_ble_eq_true rfl) ?_
      exact W.iret (v := r166) hx hb hr (fun t ht hW => ⟨⟨r166, (τ_77, ν_77, ρ_77, L_77, f168), rfl, ⟨⟨hG, hT, hH⟩, ⟨⟨fun q0 => by omega, fun q0 => (by omega)⟩, hX, fun _ => ⟨q59, by show tp_arr (f168 (ρ_77 h0 1)) _ = _; rw [ie172]; exact hq104, (by show tp_V ρ ρ_77 f f168 (ρ h0 0) q59; unfold tp_V; rw [tv174, tv175, tv176, tv178, tv180, tv182, tv184]; exact eq185)⟩, fun j hj => by show tp_arr (f168 (ρ_77 h0 1)) j = _; rw [ie172]; exact (if_neg (hj ⟨by omega, by omega⟩)).trans ((congrFun ig9 j).trans (by first | rfl | rw [eb58]))⟩⟩, by rw [ht]; exact hP, va_K.moved hW.alike hK, hD⟩, hS.F ht⟩) hS.2.2 dX11_image_61
    · rw [hq57]
      refine lv_ifnonnull (tgt := 43) hx hb dX11_image_27 (by decide) ?_
      refine lv_aload_n hx hb dX11_image_43 rfl (lv_at hl 0 rfl) ?_
      refine va_get (D := (dC, dI)) (ci := 11) (v := .ref (ρ h0 1)) (C := RX11) (T := TX11) (N := 7) hx hb hts hfX11 hown hK hP q48 eq48 rfl 1 (by decide) (hts (.fieldLink RX11 16 "ColdShips" "images" "[LColdShips$World;") wa_16) (fun _ h9 => h9) rfl dX11_image_44 ?_
      refine lv_iload_n hx hb dX11_image_47 rfl (lv_at hl 1 rfl) ?_
      refine va_aldq hx hb hK hP q49 7 eq49 rfl (vp_in_iff.mpr ⟨by omega, by omega⟩) dX11_image_48 ?_
      refine W.eq (g2 := F0 m 49 ls (.ref b56 :: [])) (congrArg (fun o => F0 m 49 ls (va_rf o :: [])) hq57) ?_
      refine lv_aload_n hx hb dX11_image_49 rfl (lv_at hl 0 rfl) ?_
      refine va_get (D := (dC, dI)) (ci := 11) (v := .ref (ρ h0 0)) (C := RX11) (T := TX11) (N := 7) hx hb hts hfX11 hown hK hP q48 eq48 rfl 0 (by decide) (hts (.fieldLink RX11 10 "ColdShips" "world" "LColdShips$World;") wa_15) (fun _ h9 => h9) rfl dX11_image_50 ?_
      refine tgk_11 hG hq57t (fun y186 y186n y187 y187n y188 y189 y190 y191 y191m y191l y192 y192m y192l y193 y193m y193l y194 y194w y194m y194l y195 y195w y195m y195l y196 y196w y196m y196l y197 y197w y197m y197l => ?_)
      refine tpk_11 hT hq57t (fun o198_x0 o198_x1 o198_x2 o198_x3 o198_x4 o198_x5 o198_x6 hf_o198 ro198_0 ro198_1 ro198_2 ro198_3 => ?_)
      refine tpk_pos (tp_in hG hq57t (by decide)) hf_o198 (fun q199 eq199 => ?_)
      have hFc := tp_fr hD hS hA
      refine va_callv (va_runV (As := [.ref (ρ h0 0)]) (rest := []) ⟨hx, hb, hml, hown, hts⟩ (t_X10_copyFrom l dC dI _ Ω κ τ ν ρ L f hG hT b56 (ρ h0 0) hq57t y1 (by omega)) (cwV 1 hts gX11_image_X10_copyFrom rfl rfl rfl ⟨rfl, pd_X10_copyFrom⟩ ⟨Nat.le_of_ble_eq_true rfl, Nat.le_of_ble_eq_true rfl⟩) ⟨pz_blind, va_recv hK hP (ci := 10) (q0 := q199) rfl eq199, pz_pre hP hK hD hN⟩ rfl rfl hl.1 rfl (lv_room (Nat.le_of_ble_eq_true rfl)) dX11_image_53 ⟨Nat.le_of_ble_eq_true rfl, Nat.le_of_ble_eq_true rfl⟩) hS (fun q _ h => hFc q h) hFc (fun f202 t H1 locs ht hvm hw201 hB hz1 hk1 hS => ?_)
      refine tn_3 hw201 (fun hT hF203 hw201p => ?_); clear hw201
      have hHp := hH; have hH := hH.pool hF203 (by decide)
      obtain ⟨hw201x, hw201p⟩ := hw201p
      have hX := hX.thH hG0 hHp hw201x (fun n q9 => by have q8 : (ρ b56 30 ≤ n ∧ n ≤ ρ b56 30 + 18) := q9; show ((0 ≤ v.toInt ∧ v.toInt ≤ 1) ∧ 20 * (v.toNatClampNeg + 1) ≤ n ∧ n ≤ 20 * (v.toNatClampNeg + 1) + 18); omega)
      have hP := hB.1; rw [ht] at hP; have hD := tp_ad f202 hD; clear hB hFc hz1 hk1; subst ht; generalize t.heap = H at hP hS ⊢
      refine tpk_11 hT hq57t (fun o204_x0 o204_x1 o204_x2 o204_x3 o204_x4 o204_x5 o204_x6 hf_o204 ro204_0 ro204_1 ro204_2 ro204_3 => ?_)
      have ro204_0 := tp_hu ro204_0
      have tv205 : tp_fld (f202 b56) 0 = o204_x0.toInt := by rw [hf_o204]; rfl
      have tv206 : tp_fld (f202 b56) 1 = o204_x1.toInt := by rw [hf_o204]; rfl
      have tv207 : tp_fld (f202 b56) 2 = o204_x2.toInt := by rw [hf_o204]; rfl
      have tv208 : tp_fld (f202 b56) 3 = o204_x3.toInt := by rw [hf_o204]; rfl
      have ro204_1 := tp_hu ro204_1
      have tv209 : tp_fld (f202 b56) 4 = o204_x4.toInt := by rw [hf_o204]; rfl
      have ro204_2 := tp_hu ro204_2
      have tv210 : tp_fld (f202 b56) 5 = o204_x5.toInt := by rw [hf_o204]; rfl
      have ro204_3 := tp_hu ro204_3
      have tv211 : tp_fld (f202 b56) 6 = o204_x6.toInt := by rw [hf_o204]; rfl
      refine tgk_7 hG y191 (fun y212 y212n y213 y213n y214 y214n y215a y215b => ?_)
      refine tpk_7 hT y191 (fun o216_x3 hf_o216 ro216_0 => ?_)
      have ro216_0 := tp_hu ro216_0
      have tv217 : tp_fld (f202 (ρ b56 12)) 3 = o216_x3.toInt := by rw [hf_o216]; rfl
      refine tgk_7 hG y192 (fun y218 y218n y219 y219n y220 y220n y221a y221b => ?_)
      refine tpk_7 hT y192 (fun o222_x3 hf_o222 ro222_0 => ?_)
      have ro222_0 := tp_hu ro222_0
      have tv223 : tp_fld (f202 (ρ b56 13)) 3 = o222_x3.toInt := by rw [hf_o222]; rfl
      refine tgk_7 hG y193 (fun y224 y224n y225 y225n y226 y226n y227a y227b => ?_)
      refine tpk_7 hT y193 (fun o228_x3 hf_o228 ro228_0 => ?_)
      have ro228_0 := tp_hu ro228_0
      have tv229 : tp_fld (f202 (ρ b56 14)) 3 = o228_x3.toInt := by rw [hf_o228]; rfl
      refine tgk_5 hG y194 (fun y230 y230n y231a y231b y231c => ?_)
      refine tpk_5 hT y194 (fun o232_x0 o232_x2 hf_o232 ro232_0 ro232_1 => ?_)
      have ro232_1 := tp_hu ro232_1
      have tv233 : tp_fld (f202 (ρ b56 15)) 2 = o232_x2.toInt := by rw [hf_o232]; rfl
      refine tgk_5 hG y195 (fun y234 y234n y235a y235b y235c => ?_)
      refine tpk_5 hT y195 (fun o236_x0 o236_x2 hf_o236 ro236_0 ro236_1 => ?_)
      have ro236_1 := tp_hu ro236_1
      have tv237 : tp_fld (f202 (ρ b56 16)) 2 = o236_x2.toInt := by rw [hf_o236]; rfl
      refine tgk_5 hG y196 (fun y238 y238n y239a y239b y239c => ?_)
      refine tpk_5 hT y196 (fun o240_x0 o240_x2 hf_o240 ro240_0 ro240_1 => ?_)
      have ro240_1 := tp_hu ro240_1
      have tv241 : tp_fld (f202 (ρ b56 17)) 2 = o240_x2.toInt := by rw [hf_o240]; rfl
      refine tgk_5 hG y197 (fun y242 y242n y243a y243b y243c => ?_)
      refine tpk_5 hT y197 (fun o244_x0 o244_x2 hf_o244 ro244_0 ro244_1 => ?_)
      have ro244_1 := tp_hu ro244_1
      have tv245 : tp_fld (f202 (ρ b56 18)) 2 = o244_x2.toInt := by rw [hf_o244]; rfl
      have pl246 : (o204_x0.toInt = (tp_fld (f (ρ h0 0)) 0)) ∧ (o204_x1.toInt = (tp_fld (f (ρ h0 0)) 1)) ∧ (o204_x2.toInt = (tp_fld (f (ρ h0 0)) 2)) ∧ (o204_x3.toInt = (tp_fld (f (ρ h0 0)) 3)) ∧ (o204_x4.toInt = (tp_fld (f (ρ h0 0)) 4)) ∧ (o204_x5.toInt = (tp_fld (f (ρ h0 0)) 5)) ∧ (o204_x6.toInt = (tp_fld (f (ρ h0 0)) 6)) ∧ (o216_x3.toInt = (tp_fld (f (ρ (ρ h0 0) 12)) 3)) ∧ (o222_x3.toInt = (tp_fld (f (ρ (ρ h0 0) 13)) 3)) ∧ (o228_x3.toInt = (tp_fld (f (ρ (ρ h0 0) 14)) 3)) ∧ (o232_x2.toInt = (tp_fld (f (ρ (ρ h0 0) 15)) 2)) ∧ (o236_x2.toInt = (tp_fld (f (ρ (ρ h0 0) 16)) 2)) ∧ (o240_x2.toInt = (tp_fld (f (ρ (ρ h0 0) 17)) 2)) ∧ (o244_x2.toInt = (tp_fld (f (ρ (ρ h0 0) 18)) 2)) := by have q9 := hw201p; rw [tv205, tv206, tv207, tv208, tv209, tv210, tv211, tv217, tv223, tv229, tv233, tv237, tv241, tv245] at q9; exact q9
      refine lv_aload_n hx hb dX11_image_56 rfl (lv_at hl 0 rfl) ?_
      refine lv_iconst (v := 0) hx hb dX11_image_57 (by decide) ?_
      have hf_247 : f202 h0 = .inr (11, [.ref (ρ h0 0), .ref (ρ h0 1), .ref (ρ h0 2), .ref (ρ h0 3), .ref (ρ h0 4), .ref (ρ h0 5), .int o47_x6]) := (hF203 _ (by rw [ht_h0]; decide)).trans hf_o47
      refine tpk_pos (tp_in hG ht_h0 (by decide)) hf_247 (fun q248 eq248 => ?_)
      have hFc := tp_fr hD hS hA
      refine va_calli (va_runV (As := [.int 0]) (rest := []) ⟨hx, hb, hml, hown, hts⟩ (t_X11_accept l dC dI _ Ω κ τ ν ρ L f202 hG hT h0 (0) ht_h0) (cwV 1 hts gX11_image_X11_accept rfl rfl rfl ⟨rfl, pd_X11_accept⟩ ⟨Nat.le_of_ble_eq_true rfl, Nat.le_of_ble_eq_true rfl⟩) ⟨pz_blind, va_recv hK hP (ci := 11) (q0 := q248) rfl eq248, pz_pre hP hK hD hN⟩ rfl rfl hl.1 rfl (lv_room (Nat.le_of_ble_eq_true rfl)) dX11_image_58 ⟨Nat.le_of_ble_eq_true rfl, Nat.le_of_ble_eq_true rfl⟩) hS (fun q _ h => hFc q h) hFc (fun r249 f251 t H1 locs ht hvm hw250 hB hz1 hk1 hS => ?_)
      refine tn_4 hw250 (fun hT hF252 hw250r hw250p => ?_); clear hw250
      have hHp := hH; have hH := hH.pool hF252 (by decide)
      have hX := hX.frH hG0 hHp hF252 (by decide)
      have hP := hB.1; rw [ht] at hP; have hD := tp_ad f251 hD; clear hB hFc hz1 hk1; subst ht; generalize t.heap = H at hP hS ⊢
      have hw250pq : r249.toInt = 0 := by rw [hw250p]; rfl
      have hf_253 : f202 (ρ h0 1) = .inl (κ 7, 2, .inr (.inr (.inr (.inr g45)))) := (hF203 _ (by rw [tp_iu y2]; decide)).trans hf_o44
      have hf_254 : f251 (ρ h0 1) = .inl (κ 7, 2, .inr (.inr (.inr (.inr g45)))) := (hF252 _ (by rw [tp_iu y2]; decide)).trans hf_253
      have ie255 : tp_arr (f251 (ρ h0 1)) = g45 := by rw [hf_254]; rfl
      have hf_256 : f251 b56 = .inr (10, [.int o204_x0, .int o204_x1, .int o204_x2, .int o204_x3, .int o204_x4, .int o204_x5, .int o204_x6, .ref (ρ b56 7), .ref (ρ b56 8), .ref (ρ b56 9), .ref (ρ b56 10), .ref (ρ b56 11), .ref (ρ b56 12), .ref (ρ b56 13), .ref (ρ b56 14), .ref (ρ b56 15), .ref (ρ b56 16), .ref (ρ b56 17), .ref (ρ b56 18)]) := (hF252 _ (by rw [hq57t]; decide)).trans hf_o204
      have tv257 : tp_fld (f251 b56) 0 = o204_x0.toInt := by rw [hf_256]; rfl
      have tv258 : tp_fld (f251 b56) 4 = o204_x4.toInt := by rw [hf_256]; rfl
      have tv259 : tp_fld (f251 b56) 5 = o204_x5.toInt := by rw [hf_256]; rfl
      have hf_260 : f251 (ρ b56 13) = .inr (6, [.ref (ρ (ρ b56 13) 0), .ref (ρ (ρ b56 13) 1), .ref (ρ (ρ b56 13) 2), .int o222_x3]) := (hF252 _ (by rw [tp_iu y192]; decide)).trans hf_o222
      have tv261 : tp_fld (f251 (ρ b56 13)) 3 = o222_x3.toInt := by rw [hf_260]; rfl
      have hf_262 : f251 (ρ b56 14) = .inr (6, [.ref (ρ (ρ b56 14) 0), .ref (ρ (ρ b56 14) 1), .ref (ρ (ρ b56 14) 2), .int o228_x3]) := (hF252 _ (by rw [tp_iu y193]; decide)).trans hf_o228
      have tv263 : tp_fld (f251 (ρ b56 14)) 3 = o228_x3.toInt := by rw [hf_262]; rfl
      have hf_264 : f251 (ρ b56 15) = .inr (4, [.int o232_x0, .ref (ρ (ρ b56 15) 1), .int o232_x2]) := (hF252 _ (by rw [tp_iu y194]; decide)).trans hf_o232
      have tv265 : tp_fld (f251 (ρ b56 15)) 2 = o232_x2.toInt := by rw [hf_264]; rfl
      have hf_266 : f251 (ρ b56 18) = .inr (4, [.int o244_x0, .ref (ρ (ρ b56 18) 1), .int o244_x2]) := (hF252 _ (by rw [tp_iu y197]; decide)).trans hf_o244
      have tv267 : tp_fld (f251 (ρ b56 18)) 2 = o244_x2.toInt := by rw [hf_266]; rfl
      have eq268 : o204_x0.toInt = tp_fld (f (ρ h0 0)) 0 ∧ o204_x4.toInt = tp_fld (f (ρ h0 0)) 4 ∧ o204_x5.toInt = tp_fld (f (ρ h0 0)) 5 ∧ o222_x3.toInt = tp_fld (f (ρ (ρ h0 0) 13)) 3 ∧ o228_x3.toInt = tp_fld (f (ρ (ρ h0 0) 14)) 3 ∧ o232_x2.toInt = tp_fld (f (ρ (ρ h0 0) 15)) 2 ∧ o244_x2.toInt = tp_fld (f (ρ (ρ h0 0) 18)) 2 := by have q9 := pl246; exact ⟨by omega, by omega, by omega, by omega, by omega, by omega, by omega⟩
      refine tp_widen 110 2634 (Nat.le_of_ble_eq_true rfl) (Nat.le_of_ble_eq_true rfl) ?_
      exact W.iret (v := r249) hx hb hr (fun t ht hW => ⟨⟨r249, (τ, ν, ρ, L, f251), rfl, ⟨⟨hG, hT, hH⟩, ⟨⟨fun q0 => by omega, fun q0 => (by omega)⟩, hX, fun _ => ⟨b56, by show tp_arr (f251 (ρ h0 1)) _ = _; rw [ie255]; exact hq57, (by show tp_V ρ ρ f f251 (ρ h0 0) b56; unfold tp_V; rw [tv257, tv258, tv259, tv261, tv263, tv265, tv267]; exact eq268)⟩, fun j hj => by show tp_arr (f251 (ρ h0 1)) j = _; rw [ie255, im46]⟩⟩, by rw [ht]; exact hP, va_K.moved hW.alike hK, hD⟩, hS.F ht⟩) hS.2.2 dX11_image_61
  · have ic53 : r51.toInt = 0 := zi_nef rfl rfl c53
    have p269 : ¬ ((0) ≤ (v.toInt) ∧ (v.toInt) ≤ (1)) := (tp_cond.no hw52p) (by omega)
    clear hw52r ic53
    refine lv_aload_n hx hb dX11_image_15 rfl (lv_at hl 0 rfl) ?_
    refine lv_iconst (v := (-1)) hx hb dX11_image_16 (by decide) ?_
    have hFc := tp_fr hD hS hA
    refine va_calli (va_runV (As := [.int (-1)]) (rest := []) ⟨hx, hb, hml, hown, hts⟩ (t_X11_refuse l dC dI _ Ω κ τ ν ρ L f hG hT h0 ((-1)) ht_h0) (cwV 1 hts gX11_image_X11_refuse rfl rfl rfl ⟨rfl, pd_X11_refuse⟩ ⟨Nat.le_of_ble_eq_true rfl, Nat.le_of_ble_eq_true rfl⟩) ⟨pz_blind, va_recv hK hP (ci := 11) (q0 := q48) rfl eq48, pz_pre hP hK hD hN⟩ rfl rfl hl.1 rfl (lv_room (Nat.le_of_ble_eq_true rfl)) dX11_image_17 ⟨Nat.le_of_ble_eq_true rfl, Nat.le_of_ble_eq_true rfl⟩) hS (fun q _ h => hFc q h) hFc (fun r270 f272 t H1 locs ht hvm hw271 hB hz1 hk1 hS => ?_)
    refine tn_4 hw271 (fun hT hF273 hw271r hw271p => ?_); clear hw271
    have hHp := hH; have hH := hH.pool hF273 (by decide)
    have hX := hX.frH hG0 hHp hF273 (by decide)
    have hP := hB.1; rw [ht] at hP; have hD := tp_ad f272 hD; clear hB hFc hz1 hk1; subst ht; generalize t.heap = H at hP hS ⊢
    have hw271pq : r270.toInt = (-1) := by rw [hw271p]; rfl
    have hf_274 : f272 (ρ h0 1) = .inl (κ 7, 2, .inr (.inr (.inr (.inr g45)))) := (hF273 _ (by rw [tp_iu y2]; decide)).trans hf_o44
    have ie275 : tp_arr (f272 (ρ h0 1)) = g45 := by rw [hf_274]; rfl
    refine tp_widen 110 2634 (Nat.le_of_ble_eq_true rfl) (Nat.le_of_ble_eq_true rfl) ?_
    exact W.iret (v := r270) hx hb hr (fun t ht hW => ⟨⟨r270, (τ, ν, ρ, L, f272), rfl, ⟨⟨hG, hT, hH⟩, ⟨⟨fun q0 => by omega, fun q0 => (by omega)⟩, hX, fun q => by exfalso; omega, fun j _ => by show tp_arr (f272 (ρ h0 1)) j = _; rw [ie275, im46]⟩⟩, by rw [ht]; exact hP, va_K.moved hW.alike hK, hD⟩, hS.F ht⟩) hS.2.2 dX11_image_20
end
